set_option maxHeartbeats 4000000 in
theorem c_M_record_1 (l : Launch) (d : Nat → Nat) (D : va_G) (a : Nat → Nat) (n : Nat → Nat → Nat) (g : Nat → Nat) (hap : ∀ i j : Nat, i < 52 → j < 52 → a i = a j → i = j) (x f k0 b v z : Nat) (hx : x < 4294967296) (hf : f < 4294967296) (hk0 : k0 < 4294967296) (hbad : ¬ (x < 2 ∧ (1 ≤ k0 ∧ k0 ≤ 32) ∧ f + k0 ≤ 128)) : jEff l d D a n g jy_M_record jb_M_record 10 (some .int) { frames := 1, cells := 0, slots := 0, locals := 22 } [.ref (a 33), .int (nI x), .int (nI f), .int (nI k0), .int (nI b), .int (nI v), .int (nI z)] (fun v9 n2 g2 => some (.int (nI 0)) = v9 ∧ ku n 33 0 1 = n2 ∧ g = g2) := by
  refine je_I (by decide) (Nat.le_of_ble_eq_true rfl) ?_
  intro p e s m A below meth c ls Q X hP hS hl hQ
  have hl : lv_has ls 10 [(0, .ref (a 33)), (1, .int (nI x)), (2, .int (nI f)), (3, .int (nI k0)), (4, .int (nI b)), (5, .int (nI v)), (6, .int (nI z))] := hl
  refine lv_aload_n X.1 X.2.1 jd_M_record_0 rfl (lv_at hl 0 rfl) ?_
  refine lv_iload_n X.1 X.2.1 jd_M_record_1 rfl (lv_at hl 1 rfl) ?_
  refine j_run (j_mkS X (c_M_isStation l d D a n g x hx) jU_b (j_pp X hP) jm_711 jm_710 jm_6 jm_709 (show jOk jy_M_isStation 1 by unfold jOk; decide +kernel) (by decide) ⟨rfl, rfl⟩ hl.1 rfl (Nat.le_of_ble_eq_true rfl) ⟨Nat.zero_le _, Nat.zero_le _⟩ jd_M_record_2) ?_
  refine W.eq (g2 := F0 m 5 ls [.int (nI (if x < 2 then 1 else 0)), .ref (a 33)]) rfl ?_
  refine kn_eq0 X.1 X.2.1 jd_M_record_5 (tgt := 35) (by decide) (by split <;> omega) (fun h5 => ?_) (fun h5 => ?_)
  · skip
    refine lv_iconst (v := nI 1) X.1 X.2.1 jd_M_record_35 (by decide) ?_
    refine jp_M_66_33 X hap hP hS jd_M_record_36 (fun H locs hP hS => ?_)
    refine lv_aload_n X.1 X.2.1 jd_M_record_39 rfl (lv_at hl 0 rfl) ?_
    refine jg_M_66_33 X hP jd_M_record_40 ?_
    refine kn_to (y := 1) (rfl) ?_
    refine kn_le0 X.1 X.2.1 jd_M_record_43 (tgt := 48) (by decide) (by omega) (fun h43 => absurd h43 (by omega)) (fun h43 => ?_)
    refine lv_iconst (v := nI 0) X.1 X.2.1 jd_M_record_46 (by decide) ?_
    exact hQ _ _ _ _ _ _ _ (⟨rfl, rfl, rfl⟩) hP hS jd_M_record_47
  · skip
    refine lv_iload_n X.1 X.2.1 jd_M_record_8 rfl (lv_at hl 3 rfl) ?_
    refine lv_iconst (v := nI 1) X.1 X.2.1 jd_M_record_9 (by decide) ?_
    refine lv_bipush (v := nI 32) X.1 X.2.1 jd_M_record_10 (by decide) ?_
    refine j_run (j_mkS X (c_M_within l d D a n g k0 1 32 (by omega) (by omega) (by omega)) jU_b (j_pp X hP) jm_714 jm_713 jm_6 jm_712 (show jOk jy_M_within 3 by unfold jOk; decide +kernel) (by decide) ⟨rfl, rfl⟩ hl.1 rfl (Nat.le_of_ble_eq_true rfl) ⟨Nat.zero_le _, Nat.zero_le _⟩ jd_M_record_12) ?_
    refine W.eq (g2 := F0 m 15 ls [.int (nI (if 1 ≤ k0 ∧ k0 ≤ 32 then 1 else 0)), .ref (a 33)]) rfl ?_
    refine kn_eq0 X.1 X.2.1 jd_M_record_15 (tgt := 35) (by decide) (by split <;> omega) (fun h15 => ?_) (fun h15 => ?_)
    · skip
      refine lv_iconst (v := nI 1) X.1 X.2.1 jd_M_record_35 (by decide) ?_
      refine jp_M_66_33 X hap hP hS jd_M_record_36 (fun H locs hP hS => ?_)
      refine lv_aload_n X.1 X.2.1 jd_M_record_39 rfl (lv_at hl 0 rfl) ?_
      refine jg_M_66_33 X hP jd_M_record_40 ?_
      refine kn_to (y := 1) (rfl) ?_
      refine kn_le0 X.1 X.2.1 jd_M_record_43 (tgt := 48) (by decide) (by omega) (fun h43 => absurd h43 (by omega)) (fun h43 => ?_)
      refine lv_iconst (v := nI 0) X.1 X.2.1 jd_M_record_46 (by decide) ?_
      exact hQ _ _ _ _ _ _ _ (⟨rfl, rfl, rfl⟩) hP hS jd_M_record_47
    · skip
      have hk1 := kn_if1 h15
      refine lv_iload_n X.1 X.2.1 jd_M_record_18 rfl (lv_at hl 2 rfl) ?_
      refine lv_iconst (v := nI 0) X.1 X.2.1 jd_M_record_19 (by decide) ?_
      refine lv_sipush (v := nI 128) X.1 X.2.1 jd_M_record_20 (by decide) ?_
      refine lv_iload_n X.1 X.2.1 jd_M_record_23 rfl (lv_at hl 3 rfl) ?_
      refine kn_isub X.1 X.2.1 jd_M_record_24 (by omega) ?_
      refine j_run (j_mkS X (c_M_within l d D a n g f 0 (128 - k0) (by omega) (by omega) (by omega)) jU_b (j_pp X hP) jm_714 jm_713 jm_6 jm_712 (show jOk jy_M_within 3 by unfold jOk; decide +kernel) (by decide) ⟨rfl, rfl⟩ hl.1 rfl (Nat.le_of_ble_eq_true rfl) ⟨Nat.zero_le _, Nat.zero_le _⟩ jd_M_record_25) ?_
      refine W.eq (g2 := F0 m 28 ls [.int (nI (if 0 ≤ f ∧ f ≤ (128 - k0) then 1 else 0)), .ref (a 33)]) rfl ?_
      refine kn_eq0 X.1 X.2.1 jd_M_record_28 (tgt := 35) (by decide) (by split <;> omega) (fun h28 => ?_) (fun h28 => ?_)
      · skip
        refine lv_iconst (v := nI 1) X.1 X.2.1 jd_M_record_35 (by decide) ?_
        refine jp_M_66_33 X hap hP hS jd_M_record_36 (fun H locs hP hS => ?_)
        refine lv_aload_n X.1 X.2.1 jd_M_record_39 rfl (lv_at hl 0 rfl) ?_
        refine jg_M_66_33 X hP jd_M_record_40 ?_
        refine kn_to (y := 1) (rfl) ?_
        refine kn_le0 X.1 X.2.1 jd_M_record_43 (tgt := 48) (by decide) (by omega) (fun h43 => absurd h43 (by omega)) (fun h43 => ?_)
        refine lv_iconst (v := nI 0) X.1 X.2.1 jd_M_record_46 (by decide) ?_
        exact hQ _ _ _ _ _ _ _ (⟨rfl, rfl, rfl⟩) hP hS jd_M_record_47
      · skip
        exact absurd ⟨kn_if1 h5, hk1, by have := kn_if1 h28; omega⟩ hbad

set_option maxHeartbeats 4000000 in
theorem c_M_record_2a_0 (l : Launch) (d : Nat → Nat) (D : va_G) (a : Nat → Nat) (n : Nat → Nat → Nat) (g : Nat → Nat) (hap : ∀ i j : Nat, i < 52 → j < 52 → a i = a j → i = j) (hB : NB n) (f k0 b v z : Nat) (hk1 : 1 ≤ k0) (hk2 : k0 ≤ 32) (hf : f + k0 ≤ 128) (hs : ¬ n 33 1 = 0) : jEff l d D a n g jy_M_record jb_M_record 10 (some .int) { frames := 1, cells := 0, slots := 0, locals := 22 } [.ref (a 33), .int (nI 0), .int (nI f), .int (nI k0), .int (nI b), .int (nI v), .int (nI z)] (fun v9 n2 g2 => some (.int (nI 0)) = v9 ∧ ku (ku n 33 0 0) 33 0 2 = n2 ∧ g = g2) := by
  refine je_I (by decide) (Nat.le_of_ble_eq_true rfl) ?_
  intro p e s m A below meth c ls Q X hP hS hl hQ
  have hl : lv_has ls 10 [(0, .ref (a 33)), (1, .int (nI 0)), (2, .int (nI f)), (3, .int (nI k0)), (4, .int (nI b)), (5, .int (nI v)), (6, .int (nI z))] := hl
  refine lv_aload_n X.1 X.2.1 jd_M_record_0 rfl (lv_at hl 0 rfl) ?_
  refine lv_iload_n X.1 X.2.1 jd_M_record_1 rfl (lv_at hl 1 rfl) ?_
  refine j_run (j_mkS X (c_M_isStation l d D a n g 0 (by first | decide | omega)) jU_b (j_pp X hP) jm_711 jm_710 jm_6 jm_709 (show jOk jy_M_isStation 1 by unfold jOk; decide +kernel) (by decide) ⟨rfl, rfl⟩ hl.1 rfl (Nat.le_of_ble_eq_true rfl) ⟨Nat.zero_le _, Nat.zero_le _⟩ jd_M_record_2) ?_
  refine W.eq (g2 := F0 m 5 ls [.int (nI (if 0 < 2 then 1 else 0)), .ref (a 33)]) rfl ?_
  refine kn_to (y := 1) (if_pos (by first | decide | omega)) ?_
  refine kn_eq0 X.1 X.2.1 jd_M_record_5 (tgt := 35) (by decide) (by omega) (fun h5 => absurd h5 (by omega)) (fun h5 => ?_)
  refine lv_iload_n X.1 X.2.1 jd_M_record_8 rfl (lv_at hl 3 rfl) ?_
  refine lv_iconst (v := nI 1) X.1 X.2.1 jd_M_record_9 (by decide) ?_
  refine lv_bipush (v := nI 32) X.1 X.2.1 jd_M_record_10 (by decide) ?_
  refine j_run (j_mkS X (c_M_within l d D a n g k0 1 32 (by omega) (by omega) (by omega)) jU_b (j_pp X hP) jm_714 jm_713 jm_6 jm_712 (show jOk jy_M_within 3 by unfold jOk; decide +kernel) (by decide) ⟨rfl, rfl⟩ hl.1 rfl (Nat.le_of_ble_eq_true rfl) ⟨Nat.zero_le _, Nat.zero_le _⟩ jd_M_record_12) ?_
  refine W.eq (g2 := F0 m 15 ls [.int (nI (if 1 ≤ k0 ∧ k0 ≤ 32 then 1 else 0)), .ref (a 33)]) rfl ?_
  refine kn_to (y := 1) (if_pos (by omega)) ?_
  refine kn_eq0 X.1 X.2.1 jd_M_record_15 (tgt := 35) (by decide) (by omega) (fun h15 => absurd h15 (by omega)) (fun h15 => ?_)
  refine lv_iload_n X.1 X.2.1 jd_M_record_18 rfl (lv_at hl 2 rfl) ?_
  refine lv_iconst (v := nI 0) X.1 X.2.1 jd_M_record_19 (by decide) ?_
  refine lv_sipush (v := nI 128) X.1 X.2.1 jd_M_record_20 (by decide) ?_
  refine lv_iload_n X.1 X.2.1 jd_M_record_23 rfl (lv_at hl 3 rfl) ?_
  refine kn_isub X.1 X.2.1 jd_M_record_24 (by omega) ?_
  refine j_run (j_mkS X (c_M_within l d D a n g f 0 (128 - k0) (by omega) (by omega) (by omega)) jU_b (j_pp X hP) jm_714 jm_713 jm_6 jm_712 (show jOk jy_M_within 3 by unfold jOk; decide +kernel) (by decide) ⟨rfl, rfl⟩ hl.1 rfl (Nat.le_of_ble_eq_true rfl) ⟨Nat.zero_le _, Nat.zero_le _⟩ jd_M_record_25) ?_
  refine W.eq (g2 := F0 m 28 ls [.int (nI (if 0 ≤ f ∧ f ≤ (128 - k0) then 1 else 0)), .ref (a 33)]) rfl ?_
  refine kn_to (y := 1) (if_pos (by omega)) ?_
  refine kn_eq0 X.1 X.2.1 jd_M_record_28 (tgt := 35) (by decide) (by omega) (fun h28 => absurd h28 (by omega)) (fun h28 => ?_)
  refine lv_iconst (v := nI 0) X.1 X.2.1 jd_M_record_31 (by decide) ?_
  refine lv_goto X.1 X.2.1 jd_M_record_32 (tgt := 36) (by decide) ?_
  refine jp_M_66_33 X hap hP hS jd_M_record_36 (fun H locs hP hS => ?_)
  refine lv_aload_n X.1 X.2.1 jd_M_record_39 rfl (lv_at hl 0 rfl) ?_
  refine jg_M_66_33 X hP jd_M_record_40 ?_
  refine kn_to (y := 0) (rfl) ?_
  refine kn_le0 X.1 X.2.1 jd_M_record_43 (tgt := 48) (by decide) (by omega) (fun h43 => ?_) (fun h43 => absurd h43 (by omega))
  refine lv_aload_n X.1 X.2.1 jd_M_record_48 rfl (lv_at hl 0 rfl) ?_
  refine jg_M_77_33 X hP jd_M_record_49 ?_
  refine kn_to (y := n 33 1) (rfl) ?_
  refine kn_ne0 X.1 X.2.1 jd_M_record_52 (tgt := 59) (by decide) (hB _ _) (fun h52 => ?_) (fun h52 => absurd h52 (hs))
  refine lv_iconst (v := nI 0) X.1 X.2.1 jd_M_record_59 (by decide) ?_
  refine lv_istore X.1 X.2.1 jd_M_record_60 hl (by decide) rfl (fun ls hl => ?_)
  have hl : lv_has ls 10 [(7, .int (nI 0)), (0, .ref (a 33)), (1, .int (nI 0)), (2, .int (nI f)), (3, .int (nI k0)), (4, .int (nI b)), (5, .int (nI v)), (6, .int (nI z))] := hl
  refine lv_iconst (v := nI 0) X.1 X.2.1 jd_M_record_62 (by decide) ?_
  refine lv_istore X.1 X.2.1 jd_M_record_63 hl (by decide) rfl (fun ls hl => ?_)
  have hl : lv_has ls 10 [(8, .int (nI 0)), (7, .int (nI 0)), (0, .ref (a 33)), (1, .int (nI 0)), (2, .int (nI f)), (3, .int (nI k0)), (4, .int (nI b)), (5, .int (nI v)), (6, .int (nI z))] := hl
  have loop65 : ∀ (r k : Nat) (ls : Array Slot), k + r = k0 → lv_has ls 10 [(8, .int (nI k)), (7, .int (nI 0)), (0, .ref (a 33)), (1, .int (nI 0)), (2, .int (nI f)), (3, .int (nI k0)), (4, .int (nI b)), (5, .int (nI v)), (6, .int (nI z))] → W p l e { frames := 1, cells := 0, slots := 0, locals := 22 } s m A below meth c H locs 0 0 Q (F0 m 65 ls []) := by
    intro r
    induction r with
    | zero => 
      intro k ls hk hl
      obtain rfl : k0 = k := by omega
      refine lv_iload X.1 X.2.1 jd_M_record_65 (lv_at hl 0 rfl) ?_
      refine lv_iload_n X.1 X.2.1 jd_M_record_67 rfl (lv_at hl 5 rfl) ?_
      refine kn_cge X.1 X.2.1 jd_M_record_68 (tgt := 107) (by decide) (by omega) (fun h68 => ?_) (fun h68 => absurd h68 (by omega))
      refine lv_iload X.1 X.2.1 jd_M_record_107 (lv_at hl 1 rfl) ?_
      refine kn_ne0 X.1 X.2.1 jd_M_record_109 (tgt := 118) (by decide) (by omega) (fun h109 => absurd h109 (by omega)) (fun h109 => ?_)
      refine lv_aload_n X.1 X.2.1 jd_M_record_112 rfl (lv_at hl 2 rfl) ?_
      refine lv_iconst (v := nI 2) X.1 X.2.1 jd_M_record_113 (by decide) ?_
      refine j_rune (j_mkV X hP (c_M_refuse l d D a (ku n 33 0 0) g hap 2 _) jU_bs (j_pe X hP) jm_718 jm_717 js_39 jm_6 jm_715 (by decide) rfl rfl (show jOk jy_M_refuse 1 by unfold jOk; decide +kernel) (by decide) ⟨rfl, rfl⟩ hl.1 rfl (Nat.le_of_ble_eq_true rfl) ⟨Nat.zero_le _, Nat.zero_le _⟩ jd_M_record_114) hS (fun v114 n114 g114 H locs h114 hP hS => ?_)
      obtain ⟨rfl, rfl, rfl⟩ := h114
      refine W.eq (g2 := F0 m 117 ls [.int (nI 0)]) rfl ?_
      exact hQ _ _ _ _ _ _ _ (⟨rfl, rfl, rfl⟩) hP hS jd_M_record_117
    | succ r ihr => 
      intro k ls hk hl
      refine lv_iload X.1 X.2.1 jd_M_record_65 (lv_at hl 0 rfl) ?_
      refine lv_iload_n X.1 X.2.1 jd_M_record_67 rfl (lv_at hl 5 rfl) ?_
      refine kn_cge X.1 X.2.1 jd_M_record_68 (tgt := 107) (by decide) (by omega) (fun h68 => absurd h68 (by omega)) (fun h68 => ?_)
      refine lv_iload X.1 X.2.1 jd_M_record_71 (lv_at hl 1 rfl) ?_
      refine kn_eq0 X.1 X.2.1 jd_M_record_73 (tgt := 98) (by decide) (by omega) (fun h73 => ?_) (fun h73 => absurd h73 (by omega))
      refine lv_iconst (v := nI 0) X.1 X.2.1 jd_M_record_98 (by decide) ?_
      refine lv_istore X.1 X.2.1 jd_M_record_99 hl (by decide) rfl (fun ls hl => ?_)
      have hl : lv_has ls 10 [(7, .int (nI 0)), (8, .int (nI k)), (0, .ref (a 33)), (1, .int (nI 0)), (2, .int (nI f)), (3, .int (nI k0)), (4, .int (nI b)), (5, .int (nI v)), (6, .int (nI z))] := hl
      refine lv_iinc (k := 1) (v := nI (k + 1)) X.1 X.2.1 jd_M_record_101 hl rfl (kn_inc _) (by decide) rfl (fun ls hl => ?_)
      have hl : lv_has ls 10 [(8, .int (nI (k + 1))), (7, .int (nI 0)), (0, .ref (a 33)), (1, .int (nI 0)), (2, .int (nI f)), (3, .int (nI k0)), (4, .int (nI b)), (5, .int (nI v)), (6, .int (nI z))] := hl
      refine lv_goto X.1 X.2.1 jd_M_record_104 (tgt := 65) (by decide) ?_
      have hl : lv_has ls 10 [(8, .int (nI (k + 1))), (7, .int (nI 0)), (0, .ref (a 33)), (1, .int (nI 0)), (2, .int (nI f)), (3, .int (nI k0)), (4, .int (nI b)), (5, .int (nI v)), (6, .int (nI z))] := lv_sub hl [0, 1, 2, 3, 4, 5, 6, 7, 8] rfl
      exact ihr (k + 1) ls (by omega) hl
  have hl : lv_has ls 10 [(8, .int (nI 0)), (7, .int (nI 0)), (0, .ref (a 33)), (1, .int (nI 0)), (2, .int (nI f)), (3, .int (nI k0)), (4, .int (nI b)), (5, .int (nI v)), (6, .int (nI z))] := lv_sub hl [0, 1, 2, 3, 4, 5, 6, 7, 8] rfl
  exact loop65 (k0) 0 ls (by omega) hl

set_option maxHeartbeats 4000000 in
theorem c_M_record_2b_0 (l : Launch) (d : Nat → Nat) (D : va_G) (a : Nat → Nat) (n : Nat → Nat → Nat) (g : Nat → Nat) (hap : ∀ i j : Nat, i < 52 → j < 52 → a i = a j → i = j) (hB : NB n) (f k0 b v z : Nat) (hk1 : 1 ≤ k0) (hk2 : k0 ≤ 32) (hf : f + k0 ≤ 128) (hs : n 33 1 = 0) (hany : ¬ anyF (n 34) (f) k0 = 0) : jEff l d D a n g jy_M_record jb_M_record 10 (some .int) { frames := 1, cells := 0, slots := 0, locals := 22 } [.ref (a 33), .int (nI 0), .int (nI f), .int (nI k0), .int (nI b), .int (nI v), .int (nI z)] (fun v9 n2 g2 => some (.int (nI 0)) = v9 ∧ ku (ku n 33 0 0) 33 0 2 = n2 ∧ g = g2) := by
  refine je_I (by decide) (Nat.le_of_ble_eq_true rfl) ?_
  intro p e s m A below meth c ls Q X hP hS hl hQ
  have hl : lv_has ls 10 [(0, .ref (a 33)), (1, .int (nI 0)), (2, .int (nI f)), (3, .int (nI k0)), (4, .int (nI b)), (5, .int (nI v)), (6, .int (nI z))] := hl
  refine lv_aload_n X.1 X.2.1 jd_M_record_0 rfl (lv_at hl 0 rfl) ?_
  refine lv_iload_n X.1 X.2.1 jd_M_record_1 rfl (lv_at hl 1 rfl) ?_
  refine j_run (j_mkS X (c_M_isStation l d D a n g 0 (by first | decide | omega)) jU_b (j_pp X hP) jm_711 jm_710 jm_6 jm_709 (show jOk jy_M_isStation 1 by unfold jOk; decide +kernel) (by decide) ⟨rfl, rfl⟩ hl.1 rfl (Nat.le_of_ble_eq_true rfl) ⟨Nat.zero_le _, Nat.zero_le _⟩ jd_M_record_2) ?_
  refine W.eq (g2 := F0 m 5 ls [.int (nI (if 0 < 2 then 1 else 0)), .ref (a 33)]) rfl ?_
  refine kn_to (y := 1) (if_pos (by first | decide | omega)) ?_
  refine kn_eq0 X.1 X.2.1 jd_M_record_5 (tgt := 35) (by decide) (by omega) (fun h5 => absurd h5 (by omega)) (fun h5 => ?_)
  refine lv_iload_n X.1 X.2.1 jd_M_record_8 rfl (lv_at hl 3 rfl) ?_
  refine lv_iconst (v := nI 1) X.1 X.2.1 jd_M_record_9 (by decide) ?_
  refine lv_bipush (v := nI 32) X.1 X.2.1 jd_M_record_10 (by decide) ?_
  refine j_run (j_mkS X (c_M_within l d D a n g k0 1 32 (by omega) (by omega) (by omega)) jU_b (j_pp X hP) jm_714 jm_713 jm_6 jm_712 (show jOk jy_M_within 3 by unfold jOk; decide +kernel) (by decide) ⟨rfl, rfl⟩ hl.1 rfl (Nat.le_of_ble_eq_true rfl) ⟨Nat.zero_le _, Nat.zero_le _⟩ jd_M_record_12) ?_
  refine W.eq (g2 := F0 m 15 ls [.int (nI (if 1 ≤ k0 ∧ k0 ≤ 32 then 1 else 0)), .ref (a 33)]) rfl ?_
  refine kn_to (y := 1) (if_pos (by omega)) ?_
  refine kn_eq0 X.1 X.2.1 jd_M_record_15 (tgt := 35) (by decide) (by omega) (fun h15 => absurd h15 (by omega)) (fun h15 => ?_)
  refine lv_iload_n X.1 X.2.1 jd_M_record_18 rfl (lv_at hl 2 rfl) ?_
  refine lv_iconst (v := nI 0) X.1 X.2.1 jd_M_record_19 (by decide) ?_
  refine lv_sipush (v := nI 128) X.1 X.2.1 jd_M_record_20 (by decide) ?_
  refine lv_iload_n X.1 X.2.1 jd_M_record_23 rfl (lv_at hl 3 rfl) ?_
  refine kn_isub X.1 X.2.1 jd_M_record_24 (by omega) ?_
  refine j_run (j_mkS X (c_M_within l d D a n g f 0 (128 - k0) (by omega) (by omega) (by omega)) jU_b (j_pp X hP) jm_714 jm_713 jm_6 jm_712 (show jOk jy_M_within 3 by unfold jOk; decide +kernel) (by decide) ⟨rfl, rfl⟩ hl.1 rfl (Nat.le_of_ble_eq_true rfl) ⟨Nat.zero_le _, Nat.zero_le _⟩ jd_M_record_25) ?_
  refine W.eq (g2 := F0 m 28 ls [.int (nI (if 0 ≤ f ∧ f ≤ (128 - k0) then 1 else 0)), .ref (a 33)]) rfl ?_
  refine kn_to (y := 1) (if_pos (by omega)) ?_
  refine kn_eq0 X.1 X.2.1 jd_M_record_28 (tgt := 35) (by decide) (by omega) (fun h28 => absurd h28 (by omega)) (fun h28 => ?_)
  refine lv_iconst (v := nI 0) X.1 X.2.1 jd_M_record_31 (by decide) ?_
  refine lv_goto X.1 X.2.1 jd_M_record_32 (tgt := 36) (by decide) ?_
  refine jp_M_66_33 X hap hP hS jd_M_record_36 (fun H locs hP hS => ?_)
  refine lv_aload_n X.1 X.2.1 jd_M_record_39 rfl (lv_at hl 0 rfl) ?_
  refine jg_M_66_33 X hP jd_M_record_40 ?_
  refine kn_to (y := 0) (rfl) ?_
  refine kn_le0 X.1 X.2.1 jd_M_record_43 (tgt := 48) (by decide) (by omega) (fun h43 => ?_) (fun h43 => absurd h43 (by omega))
  refine lv_aload_n X.1 X.2.1 jd_M_record_48 rfl (lv_at hl 0 rfl) ?_
  refine jg_M_77_33 X hP jd_M_record_49 ?_
  refine kn_to (y := n 33 1) (rfl) ?_
  refine kn_ne0 X.1 X.2.1 jd_M_record_52 (tgt := 59) (by decide) (hB _ _) (fun h52 => absurd h52 (fun q => q hs)) (fun h52 => ?_)
  refine lv_iconst (v := nI 1) X.1 X.2.1 jd_M_record_55 (by decide) ?_
  refine lv_goto X.1 X.2.1 jd_M_record_56 (tgt := 60) (by decide) ?_
  refine lv_istore X.1 X.2.1 jd_M_record_60 hl (by decide) rfl (fun ls hl => ?_)
  have hl : lv_has ls 10 [(7, .int (nI 1)), (0, .ref (a 33)), (1, .int (nI 0)), (2, .int (nI f)), (3, .int (nI k0)), (4, .int (nI b)), (5, .int (nI v)), (6, .int (nI z))] := hl
  refine lv_iconst (v := nI 0) X.1 X.2.1 jd_M_record_62 (by decide) ?_
  refine lv_istore X.1 X.2.1 jd_M_record_63 hl (by decide) rfl (fun ls hl => ?_)
  have hl : lv_has ls 10 [(8, .int (nI 0)), (7, .int (nI 1)), (0, .ref (a 33)), (1, .int (nI 0)), (2, .int (nI f)), (3, .int (nI k0)), (4, .int (nI b)), (5, .int (nI v)), (6, .int (nI z))] := hl
  have loop65 : ∀ (r k : Nat) (ls : Array Slot), k + r = k0 → lv_has ls 10 [(8, .int (nI k)), (7, .int (nI (frF (n 34) (f) k))), (0, .ref (a 33)), (1, .int (nI 0)), (2, .int (nI f)), (3, .int (nI k0)), (4, .int (nI b)), (5, .int (nI v)), (6, .int (nI z))] → W p l e { frames := 1, cells := 0, slots := 0, locals := 22 } s m A below meth c H locs 0 0 Q (F0 m 65 ls []) := by
    intro r
    induction r with
    | zero => 
      intro k ls hk hl
      obtain rfl : k0 = k := by omega
      refine lv_iload X.1 X.2.1 jd_M_record_65 (lv_at hl 0 rfl) ?_
      refine lv_iload_n X.1 X.2.1 jd_M_record_67 rfl (lv_at hl 5 rfl) ?_
      refine kn_cge X.1 X.2.1 jd_M_record_68 (tgt := 107) (by decide) (by omega) (fun h68 => ?_) (fun h68 => absurd h68 (by omega))
      refine lv_iload X.1 X.2.1 jd_M_record_107 (lv_at hl 1 rfl) ?_
      refine kn_ne0 X.1 X.2.1 jd_M_record_109 (tgt := 118) (by decide) (by have := frF_lt (n 34) (f) k0; omega) (fun h109 => absurd h109 (by have := (frF_any (n 34) (f) k0).mpr hany; omega)) (fun h109 => ?_)
      refine lv_aload_n X.1 X.2.1 jd_M_record_112 rfl (lv_at hl 2 rfl) ?_
      refine lv_iconst (v := nI 2) X.1 X.2.1 jd_M_record_113 (by decide) ?_
      refine j_rune (j_mkV X hP (c_M_refuse l d D a (ku n 33 0 0) g hap 2 _) jU_bs (j_pe X hP) jm_718 jm_717 js_39 jm_6 jm_715 (by decide) rfl rfl (show jOk jy_M_refuse 1 by unfold jOk; decide +kernel) (by decide) ⟨rfl, rfl⟩ hl.1 rfl (Nat.le_of_ble_eq_true rfl) ⟨Nat.zero_le _, Nat.zero_le _⟩ jd_M_record_114) hS (fun v114 n114 g114 H locs h114 hP hS => ?_)
      obtain ⟨rfl, rfl, rfl⟩ := h114
      refine W.eq (g2 := F0 m 117 ls [.int (nI 0)]) rfl ?_
      exact hQ _ _ _ _ _ _ _ (⟨rfl, rfl, rfl⟩) hP hS jd_M_record_117
    | succ r ihr => 
      intro k ls hk hl
      refine lv_iload X.1 X.2.1 jd_M_record_65 (lv_at hl 0 rfl) ?_
      refine lv_iload_n X.1 X.2.1 jd_M_record_67 rfl (lv_at hl 5 rfl) ?_
      refine kn_cge X.1 X.2.1 jd_M_record_68 (tgt := 107) (by decide) (by omega) (fun h68 => absurd h68 (by omega)) (fun h68 => ?_)
      refine lv_iload X.1 X.2.1 jd_M_record_71 (lv_at hl 1 rfl) ?_
      refine kn_eq0 X.1 X.2.1 jd_M_record_73 (tgt := 98) (by decide) (by have := frF_lt (n 34) (f) k; omega) (fun h73 => ?_) (fun h73 => ?_)
      · skip
        refine lv_iconst (v := nI 0) X.1 X.2.1 jd_M_record_98 (by decide) ?_
        refine lv_istore X.1 X.2.1 jd_M_record_99 hl (by decide) rfl (fun ls hl => ?_)
        have hl : lv_has ls 10 [(7, .int (nI 0)), (8, .int (nI k)), (0, .ref (a 33)), (1, .int (nI 0)), (2, .int (nI f)), (3, .int (nI k0)), (4, .int (nI b)), (5, .int (nI v)), (6, .int (nI z))] := hl
        refine lv_iinc (k := 1) (v := nI (k + 1)) X.1 X.2.1 jd_M_record_101 hl rfl (kn_inc _) (by decide) rfl (fun ls hl => ?_)
        have hl : lv_has ls 10 [(8, .int (nI (k + 1))), (7, .int (nI 0)), (0, .ref (a 33)), (1, .int (nI 0)), (2, .int (nI f)), (3, .int (nI k0)), (4, .int (nI b)), (5, .int (nI v)), (6, .int (nI z))] := hl
        refine lv_goto X.1 X.2.1 jd_M_record_104 (tgt := 65) (by decide) ?_
        have hl : lv_has ls 10 [(8, .int (nI (k + 1))), (7, .int (nI (frF (n 34) (f) (k + 1)))), (0, .ref (a 33)), (1, .int (nI 0)), (2, .int (nI f)), (3, .int (nI k0)), (4, .int (nI b)), (5, .int (nI v)), (6, .int (nI z))] := by first | exact lv_sub hl [0, 1, 2, 3, 4, 5, 6, 7, 8] rfl | (simp only [frF]; first | (rw [if_pos (by first | exact h73 | omega)]; rw [if_pos (by first | exact h91 | omega)]; exact lv_sub hl [0, 1, 2, 3, 4, 5, 6, 7, 8] rfl) | (rw [if_pos (by first | exact h73 | omega)]; rw [if_neg (by first | exact h91 | omega)]; exact lv_sub hl [0, 1, 2, 3, 4, 5, 6, 7, 8] rfl) | (rw [if_neg (by first | exact h73 | omega)]; rw [if_pos (by first | exact h91 | omega)]; exact lv_sub hl [0, 1, 2, 3, 4, 5, 6, 7, 8] rfl) | (rw [if_neg (by first | exact h73 | omega)]; rw [if_neg (by first | exact h91 | omega)]; exact lv_sub hl [0, 1, 2, 3, 4, 5, 6, 7, 8] rfl) | (rw [if_pos (by first | exact h73 | omega)]; exact lv_sub hl [0, 1, 2, 3, 4, 5, 6, 7, 8] rfl) | (rw [if_neg (by first | exact h73 | omega)]; exact lv_sub hl [0, 1, 2, 3, 4, 5, 6, 7, 8] rfl))
        exact ihr (k + 1) ls (by omega) hl
      · skip
        refine lv_aload_n X.1 X.2.1 jd_M_record_76 rfl (lv_at hl 2 rfl) ?_
        refine jg_M_7_33 X hP jd_M_record_77 ?_
        refine lv_sipush (v := nI 128) X.1 X.2.1 jd_M_record_80 (by decide) ?_
        refine lv_iload_n X.1 X.2.1 jd_M_record_83 rfl (lv_at hl 3 rfl) ?_
        refine kn_imul X.1 X.2.1 jd_M_record_84 ?_
        refine kn_to (y := 0) (by omega) ?_
        refine lv_iload_n X.1 X.2.1 jd_M_record_85 rfl (lv_at hl 4 rfl) ?_
        refine kn_iadd X.1 X.2.1 jd_M_record_86 ?_
        refine kn_to (y := f) (by omega) ?_
        refine lv_iload X.1 X.2.1 jd_M_record_87 (lv_at hl 0 rfl) ?_
        refine kn_iadd X.1 X.2.1 jd_M_record_89 ?_
        refine j_zald X hP 34 (f + k) (by decide) (show (f + k) < 256 from by omega) (by decide) jd_M_record_90 ?_
        refine kn_to (y := n 34 (f + k)) (rfl) ?_
        refine kn_ne0 X.1 X.2.1 jd_M_record_91 (tgt := 98) (by decide) (hB _ _) (fun h91 => ?_) (fun h91 => ?_)
        · skip
          refine lv_iconst (v := nI 0) X.1 X.2.1 jd_M_record_98 (by decide) ?_
          refine lv_istore X.1 X.2.1 jd_M_record_99 hl (by decide) rfl (fun ls hl => ?_)
          have hl : lv_has ls 10 [(7, .int (nI 0)), (8, .int (nI k)), (0, .ref (a 33)), (1, .int (nI 0)), (2, .int (nI f)), (3, .int (nI k0)), (4, .int (nI b)), (5, .int (nI v)), (6, .int (nI z))] := hl
          refine lv_iinc (k := 1) (v := nI (k + 1)) X.1 X.2.1 jd_M_record_101 hl rfl (kn_inc _) (by decide) rfl (fun ls hl => ?_)
          have hl : lv_has ls 10 [(8, .int (nI (k + 1))), (7, .int (nI 0)), (0, .ref (a 33)), (1, .int (nI 0)), (2, .int (nI f)), (3, .int (nI k0)), (4, .int (nI b)), (5, .int (nI v)), (6, .int (nI z))] := hl
          refine lv_goto X.1 X.2.1 jd_M_record_104 (tgt := 65) (by decide) ?_
          have hl : lv_has ls 10 [(8, .int (nI (k + 1))), (7, .int (nI (frF (n 34) (f) (k + 1)))), (0, .ref (a 33)), (1, .int (nI 0)), (2, .int (nI f)), (3, .int (nI k0)), (4, .int (nI b)), (5, .int (nI v)), (6, .int (nI z))] := by first | exact lv_sub hl [0, 1, 2, 3, 4, 5, 6, 7, 8] rfl | (simp only [frF]; first | (rw [if_pos (by first | exact h73 | omega)]; rw [if_pos (by first | exact h91 | omega)]; exact lv_sub hl [0, 1, 2, 3, 4, 5, 6, 7, 8] rfl) | (rw [if_pos (by first | exact h73 | omega)]; rw [if_neg (by first | exact h91 | omega)]; exact lv_sub hl [0, 1, 2, 3, 4, 5, 6, 7, 8] rfl) | (rw [if_neg (by first | exact h73 | omega)]; rw [if_pos (by first | exact h91 | omega)]; exact lv_sub hl [0, 1, 2, 3, 4, 5, 6, 7, 8] rfl) | (rw [if_neg (by first | exact h73 | omega)]; rw [if_neg (by first | exact h91 | omega)]; exact lv_sub hl [0, 1, 2, 3, 4, 5, 6, 7, 8] rfl) | (rw [if_pos (by first | exact h73 | omega)]; exact lv_sub hl [0, 1, 2, 3, 4, 5, 6, 7, 8] rfl) | (rw [if_neg (by first | exact h73 | omega)]; exact lv_sub hl [0, 1, 2, 3, 4, 5, 6, 7, 8] rfl))
          exact ihr (k + 1) ls (by omega) hl
        · skip
          refine lv_iconst (v := nI 1) X.1 X.2.1 jd_M_record_94 (by decide) ?_
          refine lv_goto X.1 X.2.1 jd_M_record_95 (tgt := 99) (by decide) ?_
          refine lv_istore X.1 X.2.1 jd_M_record_99 hl (by decide) rfl (fun ls hl => ?_)
          have hl : lv_has ls 10 [(7, .int (nI 1)), (8, .int (nI k)), (0, .ref (a 33)), (1, .int (nI 0)), (2, .int (nI f)), (3, .int (nI k0)), (4, .int (nI b)), (5, .int (nI v)), (6, .int (nI z))] := hl
          refine lv_iinc (k := 1) (v := nI (k + 1)) X.1 X.2.1 jd_M_record_101 hl rfl (kn_inc _) (by decide) rfl (fun ls hl => ?_)
          have hl : lv_has ls 10 [(8, .int (nI (k + 1))), (7, .int (nI 1)), (0, .ref (a 33)), (1, .int (nI 0)), (2, .int (nI f)), (3, .int (nI k0)), (4, .int (nI b)), (5, .int (nI v)), (6, .int (nI z))] := hl
          refine lv_goto X.1 X.2.1 jd_M_record_104 (tgt := 65) (by decide) ?_
          have hl : lv_has ls 10 [(8, .int (nI (k + 1))), (7, .int (nI (frF (n 34) (f) (k + 1)))), (0, .ref (a 33)), (1, .int (nI 0)), (2, .int (nI f)), (3, .int (nI k0)), (4, .int (nI b)), (5, .int (nI v)), (6, .int (nI z))] := by first | exact lv_sub hl [0, 1, 2, 3, 4, 5, 6, 7, 8] rfl | (simp only [frF]; first | (rw [if_pos (by first | exact h73 | omega)]; rw [if_pos (by first | exact h91 | omega)]; exact lv_sub hl [0, 1, 2, 3, 4, 5, 6, 7, 8] rfl) | (rw [if_pos (by first | exact h73 | omega)]; rw [if_neg (by first | exact h91 | omega)]; exact lv_sub hl [0, 1, 2, 3, 4, 5, 6, 7, 8] rfl) | (rw [if_neg (by first | exact h73 | omega)]; rw [if_pos (by first | exact h91 | omega)]; exact lv_sub hl [0, 1, 2, 3, 4, 5, 6, 7, 8] rfl) | (rw [if_neg (by first | exact h73 | omega)]; rw [if_neg (by first | exact h91 | omega)]; exact lv_sub hl [0, 1, 2, 3, 4, 5, 6, 7, 8] rfl) | (rw [if_pos (by first | exact h73 | omega)]; exact lv_sub hl [0, 1, 2, 3, 4, 5, 6, 7, 8] rfl) | (rw [if_neg (by first | exact h73 | omega)]; exact lv_sub hl [0, 1, 2, 3, 4, 5, 6, 7, 8] rfl))
          exact ihr (k + 1) ls (by omega) hl
  have hl : lv_has ls 10 [(8, .int (nI 0)), (7, .int (nI (frF (n 34) (f) 0))), (0, .ref (a 33)), (1, .int (nI 0)), (2, .int (nI f)), (3, .int (nI k0)), (4, .int (nI b)), (5, .int (nI v)), (6, .int (nI z))] := lv_sub hl [0, 1, 2, 3, 4, 5, 6, 7, 8] rfl
  exact loop65 (k0) 0 ls (by omega) hl

set_option maxHeartbeats 4000000 in
theorem c_M_record_g_0 (l : Launch) (d : Nat → Nat) (D : va_G) (a : Nat → Nat) (n : Nat → Nat → Nat) (g : Nat → Nat) (hap : ∀ i j : Nat, i < 52 → j < 52 → a i = a j → i = j) (hB : NB n) (f k0 b v z : Nat) (hk1 : 1 ≤ k0) (hk2 : k0 ≤ 32) (hf : f + k0 ≤ 128) (hs : n 33 1 = 0) (hany : anyF (n 34) (f) k0 = 0) (h37 : ∀ i, n 37 i < 2) : jEff l d D a n g jy_M_record jb_M_record 10 (some .int) { frames := 1, cells := 0, slots := 0, locals := 22 } [.ref (a 33), .int (nI 0), .int (nI f), .int (nI k0), .int (nI b), .int (nI v), .int (nI z)] (fun v9 n2 g2 => some (.int (nI (ctF ((nr0 (ku n 33 0 0) f b v k0) 34) 128))) = v9 ∧ (nr0 (ku n 33 0 0) f b v k0) = n2 ∧ g = g2) := by
  refine je_I (by decide) (Nat.le_of_ble_eq_true rfl) ?_
  intro p e s m A below meth c ls Q X hP hS hl hQ
  have hl : lv_has ls 10 [(0, .ref (a 33)), (1, .int (nI 0)), (2, .int (nI f)), (3, .int (nI k0)), (4, .int (nI b)), (5, .int (nI v)), (6, .int (nI z))] := hl
  refine lv_aload_n X.1 X.2.1 jd_M_record_0 rfl (lv_at hl 0 rfl) ?_
  refine lv_iload_n X.1 X.2.1 jd_M_record_1 rfl (lv_at hl 1 rfl) ?_
  refine j_run (j_mkS X (c_M_isStation l d D a n g 0 (by first | decide | omega)) jU_b (j_pp X hP) jm_711 jm_710 jm_6 jm_709 (show jOk jy_M_isStation 1 by unfold jOk; decide +kernel) (by decide) ⟨rfl, rfl⟩ hl.1 rfl (Nat.le_of_ble_eq_true rfl) ⟨Nat.zero_le _, Nat.zero_le _⟩ jd_M_record_2) ?_
  refine W.eq (g2 := F0 m 5 ls [.int (nI (if 0 < 2 then 1 else 0)), .ref (a 33)]) rfl ?_
  refine kn_to (y := 1) (if_pos (by first | decide | omega)) ?_
  refine kn_eq0 X.1 X.2.1 jd_M_record_5 (tgt := 35) (by decide) (by omega) (fun h5 => absurd h5 (by omega)) (fun h5 => ?_)
  refine lv_iload_n X.1 X.2.1 jd_M_record_8 rfl (lv_at hl 3 rfl) ?_
  refine lv_iconst (v := nI 1) X.1 X.2.1 jd_M_record_9 (by decide) ?_
  refine lv_bipush (v := nI 32) X.1 X.2.1 jd_M_record_10 (by decide) ?_
  refine j_run (j_mkS X (c_M_within l d D a n g k0 1 32 (by omega) (by omega) (by omega)) jU_b (j_pp X hP) jm_714 jm_713 jm_6 jm_712 (show jOk jy_M_within 3 by unfold jOk; decide +kernel) (by decide) ⟨rfl, rfl⟩ hl.1 rfl (Nat.le_of_ble_eq_true rfl) ⟨Nat.zero_le _, Nat.zero_le _⟩ jd_M_record_12) ?_
  refine W.eq (g2 := F0 m 15 ls [.int (nI (if 1 ≤ k0 ∧ k0 ≤ 32 then 1 else 0)), .ref (a 33)]) rfl ?_
  refine kn_to (y := 1) (if_pos (by omega)) ?_
  refine kn_eq0 X.1 X.2.1 jd_M_record_15 (tgt := 35) (by decide) (by omega) (fun h15 => absurd h15 (by omega)) (fun h15 => ?_)
  refine lv_iload_n X.1 X.2.1 jd_M_record_18 rfl (lv_at hl 2 rfl) ?_
  refine lv_iconst (v := nI 0) X.1 X.2.1 jd_M_record_19 (by decide) ?_
  refine lv_sipush (v := nI 128) X.1 X.2.1 jd_M_record_20 (by decide) ?_
  refine lv_iload_n X.1 X.2.1 jd_M_record_23 rfl (lv_at hl 3 rfl) ?_
  refine kn_isub X.1 X.2.1 jd_M_record_24 (by omega) ?_
  refine j_run (j_mkS X (c_M_within l d D a n g f 0 (128 - k0) (by omega) (by omega) (by omega)) jU_b (j_pp X hP) jm_714 jm_713 jm_6 jm_712 (show jOk jy_M_within 3 by unfold jOk; decide +kernel) (by decide) ⟨rfl, rfl⟩ hl.1 rfl (Nat.le_of_ble_eq_true rfl) ⟨Nat.zero_le _, Nat.zero_le _⟩ jd_M_record_25) ?_
  refine W.eq (g2 := F0 m 28 ls [.int (nI (if 0 ≤ f ∧ f ≤ (128 - k0) then 1 else 0)), .ref (a 33)]) rfl ?_
  refine kn_to (y := 1) (if_pos (by omega)) ?_
  refine kn_eq0 X.1 X.2.1 jd_M_record_28 (tgt := 35) (by decide) (by omega) (fun h28 => absurd h28 (by omega)) (fun h28 => ?_)
  refine lv_iconst (v := nI 0) X.1 X.2.1 jd_M_record_31 (by decide) ?_
  refine lv_goto X.1 X.2.1 jd_M_record_32 (tgt := 36) (by decide) ?_
  refine jp_M_66_33 X hap hP hS jd_M_record_36 (fun H locs hP hS => ?_)
  refine lv_aload_n X.1 X.2.1 jd_M_record_39 rfl (lv_at hl 0 rfl) ?_
  refine jg_M_66_33 X hP jd_M_record_40 ?_
  refine kn_to (y := 0) (rfl) ?_
  refine kn_le0 X.1 X.2.1 jd_M_record_43 (tgt := 48) (by decide) (by omega) (fun h43 => ?_) (fun h43 => absurd h43 (by omega))
  refine lv_aload_n X.1 X.2.1 jd_M_record_48 rfl (lv_at hl 0 rfl) ?_
  refine jg_M_77_33 X hP jd_M_record_49 ?_
  refine kn_to (y := n 33 1) (rfl) ?_
  refine kn_ne0 X.1 X.2.1 jd_M_record_52 (tgt := 59) (by decide) (hB _ _) (fun h52 => absurd h52 (fun q => q hs)) (fun h52 => ?_)
  refine lv_iconst (v := nI 1) X.1 X.2.1 jd_M_record_55 (by decide) ?_
  refine lv_goto X.1 X.2.1 jd_M_record_56 (tgt := 60) (by decide) ?_
  refine lv_istore X.1 X.2.1 jd_M_record_60 hl (by decide) rfl (fun ls hl => ?_)
  have hl : lv_has ls 10 [(7, .int (nI 1)), (0, .ref (a 33)), (1, .int (nI 0)), (2, .int (nI f)), (3, .int (nI k0)), (4, .int (nI b)), (5, .int (nI v)), (6, .int (nI z))] := hl
  refine lv_iconst (v := nI 0) X.1 X.2.1 jd_M_record_62 (by decide) ?_
  refine lv_istore X.1 X.2.1 jd_M_record_63 hl (by decide) rfl (fun ls hl => ?_)
  have hl : lv_has ls 10 [(8, .int (nI 0)), (7, .int (nI 1)), (0, .ref (a 33)), (1, .int (nI 0)), (2, .int (nI f)), (3, .int (nI k0)), (4, .int (nI b)), (5, .int (nI v)), (6, .int (nI z))] := hl
  have loop65 : ∀ (r k : Nat) (ls : Array Slot), k + r = k0 → lv_has ls 10 [(8, .int (nI k)), (7, .int (nI (frF (n 34) (f) k))), (0, .ref (a 33)), (1, .int (nI 0)), (2, .int (nI f)), (3, .int (nI k0)), (4, .int (nI b)), (5, .int (nI v)), (6, .int (nI z))] → W p l e { frames := 1, cells := 0, slots := 0, locals := 22 } s m A below meth c H locs 0 0 Q (F0 m 65 ls []) := by
    intro r
    induction r with
    | zero => 
      intro k ls hk hl
      obtain rfl : k0 = k := by omega
      refine lv_iload X.1 X.2.1 jd_M_record_65 (lv_at hl 0 rfl) ?_
      refine lv_iload_n X.1 X.2.1 jd_M_record_67 rfl (lv_at hl 5 rfl) ?_
      refine kn_cge X.1 X.2.1 jd_M_record_68 (tgt := 107) (by decide) (by omega) (fun h68 => ?_) (fun h68 => absurd h68 (by omega))
      refine lv_iload X.1 X.2.1 jd_M_record_107 (lv_at hl 1 rfl) ?_
      refine kn_ne0 X.1 X.2.1 jd_M_record_109 (tgt := 118) (by decide) (by have := frF_lt (n 34) (f) k0; omega) (fun h109 => ?_) (fun h109 => absurd h109 (by have := mt (frF_any (n 34) (f) k0).mp (fun q => q hany); omega))
      refine lv_iconst (v := nI 0) X.1 X.2.1 jd_M_record_118 (by decide) ?_
      refine lv_istore X.1 X.2.1 jd_M_record_119 hl (by decide) rfl (fun ls hl => ?_)
      have hl : lv_has ls 10 [(8, .int (nI 0)), (7, .int (nI (frF (n 34) (f) k0))), (0, .ref (a 33)), (1, .int (nI 0)), (2, .int (nI f)), (3, .int (nI k0)), (4, .int (nI b)), (5, .int (nI v)), (6, .int (nI z))] := hl
      have loopN : ∀ (rN k : Nat) (H : Heap) (locs : List Loc) (ls : Array Slot), k + rN = k0 → va_P D jCl (jW d a (nr0 (ku n 33 0 0) f b v k) g) H → va_S (jAa a s.heap.size) s.heap H locs → lv_has ls 10 [(8, .int (nI k)), (0, .ref (a 33)), (1, .int (nI 0)), (2, .int (nI f)), (3, .int (nI k0)), (4, .int (nI b)), (5, .int (nI v)), (6, .int (nI z))] → W p l e { frames := 1, cells := 0, slots := 0, locals := 22 } s m A below meth c H locs 0 0 Q (F0 m 121 ls []) := by
        intro rN
        induction rN with
        | zero => 
          intro k H locs ls hk hP hS hl
          obtain rfl : k0 = k := by omega
          refine lv_iload X.1 X.2.1 jd_M_record_121 (lv_at hl 0 rfl) ?_
          refine lv_iload_n X.1 X.2.1 jd_M_record_123 rfl (lv_at hl 4 rfl) ?_
          refine kn_cge X.1 X.2.1 jd_M_record_124 (tgt := 223) (by decide) (by omega) (fun h124 => ?_) (fun h124 => absurd h124 (by omega))
          refine lv_iconst (v := nI 0) X.1 X.2.1 jd_M_record_223 (by decide) ?_
          refine lv_istore X.1 X.2.1 jd_M_record_224 hl (by decide) rfl (fun ls hl => ?_)
          have hl : lv_has ls 10 [(8, .int (nI 0)), (0, .ref (a 33)), (1, .int (nI 0)), (2, .int (nI f)), (3, .int (nI k0)), (4, .int (nI b)), (5, .int (nI v)), (6, .int (nI z))] := hl
          refine lv_iconst (v := nI 0) X.1 X.2.1 jd_M_record_226 (by decide) ?_
          refine lv_istore X.1 X.2.1 jd_M_record_227 hl (by decide) rfl (fun ls hl => ?_)
          have hl : lv_has ls 10 [(9, .int (nI 0)), (8, .int (nI 0)), (0, .ref (a 33)), (1, .int (nI 0)), (2, .int (nI f)), (3, .int (nI k0)), (4, .int (nI b)), (5, .int (nI v)), (6, .int (nI z))] := hl
          have loopC : ∀ (rC k : Nat) (ls : Array Slot), k + rC = 128 → lv_has ls 10 [(9, .int (nI k)), (8, .int (nI (ctF ((nr0 (ku n 33 0 0) f b v k0) 34) k))), (0, .ref (a 33)), (1, .int (nI 0))] → W p l e { frames := 1, cells := 0, slots := 0, locals := 22 } s m A below meth c H locs 0 0 Q (F0 m 229 ls []) := by
            intro rC
            induction rC with
            | zero => 
              intro k ls hk hl
              obtain rfl : 128 = k := by omega
              refine lv_iload X.1 X.2.1 jd_M_record_229 (lv_at hl 0 rfl) ?_
              refine lv_sipush (v := nI 128) X.1 X.2.1 jd_M_record_231 (by decide) ?_
              refine kn_cge X.1 X.2.1 jd_M_record_234 (tgt := 270) (by decide) (by omega) (fun h234 => ?_) (fun h234 => absurd h234 (by omega))
              refine lv_iload X.1 X.2.1 jd_M_record_270 (lv_at hl 1 rfl) ?_
              exact hQ _ _ _ _ _ _ _ (⟨rfl, rfl, rfl⟩) hP hS jd_M_record_272
            | succ rC ihrC => 
              intro k ls hk hl
              refine lv_iload X.1 X.2.1 jd_M_record_229 (lv_at hl 0 rfl) ?_
              refine lv_sipush (v := nI 128) X.1 X.2.1 jd_M_record_231 (by decide) ?_
              refine kn_cge X.1 X.2.1 jd_M_record_234 (tgt := 270) (by decide) (by omega) (fun h234 => absurd h234 (by omega)) (fun h234 => ?_)
              refine lv_aload_n X.1 X.2.1 jd_M_record_237 rfl (lv_at hl 2 rfl) ?_
              refine jg_M_7_33 X hP jd_M_record_238 ?_
              refine lv_sipush (v := nI 128) X.1 X.2.1 jd_M_record_241 (by decide) ?_
              refine lv_iload_n X.1 X.2.1 jd_M_record_244 rfl (lv_at hl 3 rfl) ?_
              refine kn_imul X.1 X.2.1 jd_M_record_245 ?_
              refine kn_to (y := 0) (by omega) ?_
              refine lv_iload X.1 X.2.1 jd_M_record_246 (lv_at hl 0 rfl) ?_
              refine kn_iadd X.1 X.2.1 jd_M_record_248 ?_
              refine kn_to (y := k) (by omega) ?_
              refine j_zald X hP 34 k (by decide) (show k < 256 from by omega) (by decide) jd_M_record_249 ?_
              refine kn_to (y := (nr0 (ku n 33 0 0) f b v k0) 34 (k)) (rfl) ?_
              refine kn_eq0 X.1 X.2.1 jd_M_record_250 (tgt := 260) (by decide) (NB_nr0 (NB_ku hB (by decide)) k0 _ _) (fun h250 => ?_) (fun h250 => ?_)
              · skip
                refine lv_iload X.1 X.2.1 jd_M_record_260 (lv_at hl 1 rfl) ?_
                refine lv_istore X.1 X.2.1 jd_M_record_262 hl (by decide) rfl (fun ls hl => ?_)
                have hl : lv_has ls 10 [(8, .int (nI (ctF ((nr0 (ku n 33 0 0) f b v k0) 34) k))), (9, .int (nI k)), (0, .ref (a 33)), (1, .int (nI 0))] := hl
                refine lv_iinc (k := 1) (v := nI (k + 1)) X.1 X.2.1 jd_M_record_264 hl rfl (kn_inc _) (by decide) rfl (fun ls hl => ?_)
                have hl : lv_has ls 10 [(9, .int (nI (k + 1))), (8, .int (nI (ctF ((nr0 (ku n 33 0 0) f b v k0) 34) k))), (0, .ref (a 33)), (1, .int (nI 0))] := hl
                refine lv_goto X.1 X.2.1 jd_M_record_267 (tgt := 229) (by decide) ?_
                have hl : lv_has ls 10 [(9, .int (nI (k + 1))), (8, .int (nI (ctF ((nr0 (ku n 33 0 0) f b v k0) 34) (k + 1)))), (0, .ref (a 33)), (1, .int (nI 0))] := by first | exact lv_sub hl [0, 1, 2, 3] rfl | (simp only [ctF]; first | (rw [if_pos (by first | exact h250 | omega)]; exact lv_sub hl [0, 1, 2, 3] rfl) | (rw [if_neg (by first | exact h250 | omega)]; exact lv_sub hl [0, 1, 2, 3] rfl))
                exact ihrC (k + 1) ls (by omega) hl
              · skip
                refine lv_iload X.1 X.2.1 jd_M_record_253 (lv_at hl 1 rfl) ?_
                refine lv_iconst (v := nI 1) X.1 X.2.1 jd_M_record_255 (by decide) ?_
                refine kn_iadd X.1 X.2.1 jd_M_record_256 ?_
                refine lv_goto X.1 X.2.1 jd_M_record_257 (tgt := 262) (by decide) ?_
                refine lv_istore X.1 X.2.1 jd_M_record_262 hl (by decide) rfl (fun ls hl => ?_)
                have hl : lv_has ls 10 [(8, .int (nI ((ctF ((nr0 (ku n 33 0 0) f b v k0) 34) k) + 1))), (9, .int (nI k)), (0, .ref (a 33)), (1, .int (nI 0))] := hl
                refine lv_iinc (k := 1) (v := nI (k + 1)) X.1 X.2.1 jd_M_record_264 hl rfl (kn_inc _) (by decide) rfl (fun ls hl => ?_)
                have hl : lv_has ls 10 [(9, .int (nI (k + 1))), (8, .int (nI ((ctF ((nr0 (ku n 33 0 0) f b v k0) 34) k) + 1))), (0, .ref (a 33)), (1, .int (nI 0))] := hl
                refine lv_goto X.1 X.2.1 jd_M_record_267 (tgt := 229) (by decide) ?_
                have hl : lv_has ls 10 [(9, .int (nI (k + 1))), (8, .int (nI (ctF ((nr0 (ku n 33 0 0) f b v k0) 34) (k + 1)))), (0, .ref (a 33)), (1, .int (nI 0))] := by first | exact lv_sub hl [0, 1, 2, 3] rfl | (simp only [ctF]; first | (rw [if_pos (by first | exact h250 | omega)]; exact lv_sub hl [0, 1, 2, 3] rfl) | (rw [if_neg (by first | exact h250 | omega)]; exact lv_sub hl [0, 1, 2, 3] rfl))
                exact ihrC (k + 1) ls (by omega) hl
          have hl : lv_has ls 10 [(9, .int (nI 0)), (8, .int (nI (ctF ((nr0 (ku n 33 0 0) f b v k0) 34) 0))), (0, .ref (a 33)), (1, .int (nI 0))] := lv_sub hl [0, 1, 2, 3] rfl
          exact loopC (128) 0 ls (by omega) hl
        | succ rN ihrN => 
          intro k H locs ls hk hP hS hl
          refine lv_iload X.1 X.2.1 jd_M_record_121 (lv_at hl 0 rfl) ?_
          refine lv_iload_n X.1 X.2.1 jd_M_record_123 rfl (lv_at hl 4 rfl) ?_
          refine kn_cge X.1 X.2.1 jd_M_record_124 (tgt := 223) (by decide) (by omega) (fun h124 => absurd h124 (by omega)) (fun h124 => ?_)
          refine lv_sipush (v := nI 128) X.1 X.2.1 jd_M_record_127 (by decide) ?_
          refine lv_iload_n X.1 X.2.1 jd_M_record_130 rfl (lv_at hl 2 rfl) ?_
          refine kn_imul X.1 X.2.1 jd_M_record_131 ?_
          refine kn_to (y := 0) (by omega) ?_
          refine lv_iload_n X.1 X.2.1 jd_M_record_132 rfl (lv_at hl 3 rfl) ?_
          refine kn_iadd X.1 X.2.1 jd_M_record_133 ?_
          refine kn_to (y := f) (by omega) ?_
          refine lv_iload X.1 X.2.1 jd_M_record_134 (lv_at hl 0 rfl) ?_
          refine kn_iadd X.1 X.2.1 jd_M_record_136 ?_
          refine lv_istore X.1 X.2.1 jd_M_record_137 hl (by decide) rfl (fun ls hl => ?_)
          have hl : lv_has ls 10 [(9, .int (nI (f + k))), (8, .int (nI k)), (0, .ref (a 33)), (1, .int (nI 0)), (2, .int (nI f)), (3, .int (nI k0)), (4, .int (nI b)), (5, .int (nI v)), (6, .int (nI z))] := hl
          refine lv_aload_n X.1 X.2.1 jd_M_record_139 rfl (lv_at hl 2 rfl) ?_
          refine jg_M_7_33 X hP jd_M_record_140 ?_
          refine lv_iload X.1 X.2.1 jd_M_record_143 (lv_at hl 0 rfl) ?_
          refine lv_iconst (v := nI 1) X.1 X.2.1 jd_M_record_145 (by decide) ?_
          refine j_zast X hap hP hS 34 (f + k) 1 (by decide) (show (f + k) < 256 from by omega) (by decide) (by decide) jd_M_record_146 (fun H locs hP hS => ?_)
          refine lv_aload_n X.1 X.2.1 jd_M_record_147 rfl (lv_at hl 2 rfl) ?_
          refine jg_M_13_33 X hP jd_M_record_148 ?_
          refine lv_iload X.1 X.2.1 jd_M_record_151 (lv_at hl 0 rfl) ?_
          refine lv_iload X.1 X.2.1 jd_M_record_153 (lv_at hl 6 rfl) ?_
          refine lv_iload X.1 X.2.1 jd_M_record_155 (lv_at hl 1 rfl) ?_
          refine lv_ishr X.1 X.2.1 jd_M_record_157 ?_
          refine lv_iconst (v := nI 1) X.1 X.2.1 jd_M_record_158 (by decide) ?_
          refine lv_iand X.1 X.2.1 jd_M_record_159 ?_
          refine kn_is (y := b / 2 ^ k &&& 1) (kn_sbit (by omega)) ?_
          refine j_ast X hap hP hS 35 (f + k) (b / 2 ^ k &&& 1) (by decide) (show (f + k) < 256 from by omega) (by decide) jd_M_record_160 (fun H locs hP hS => ?_)
          refine lv_aload_n X.1 X.2.1 jd_M_record_161 rfl (lv_at hl 2 rfl) ?_
          refine jg_M_17_33 X hP jd_M_record_162 ?_
          refine lv_iload X.1 X.2.1 jd_M_record_165 (lv_at hl 0 rfl) ?_
          refine lv_iload X.1 X.2.1 jd_M_record_167 (lv_at hl 7 rfl) ?_
          refine lv_iload X.1 X.2.1 jd_M_record_169 (lv_at hl 1 rfl) ?_
          refine lv_ishr X.1 X.2.1 jd_M_record_171 ?_
          refine lv_iconst (v := nI 1) X.1 X.2.1 jd_M_record_172 (by decide) ?_
          refine lv_iand X.1 X.2.1 jd_M_record_173 ?_
          refine kn_is (y := v / 2 ^ k &&& 1) (kn_sbit (by omega)) ?_
          refine j_ast X hap hP hS 36 (f + k) (v / 2 ^ k &&& 1) (by decide) (show (f + k) < 256 from by omega) (by decide) jd_M_record_174 (fun H locs hP hS => ?_)
          refine lv_aload_n X.1 X.2.1 jd_M_record_175 rfl (lv_at hl 2 rfl) ?_
          refine jg_M_20_33 X hP jd_M_record_176 ?_
          refine lv_iload_n X.1 X.2.1 jd_M_record_179 rfl (lv_at hl 4 rfl) ?_
          refine lv_iload X.1 X.2.1 jd_M_record_180 (lv_at hl 1 rfl) ?_
          refine kn_iadd X.1 X.2.1 jd_M_record_182 ?_
          refine lv_iload_n X.1 X.2.1 jd_M_record_183 rfl (lv_at hl 3 rfl) ?_
          refine lv_iconst (v := nI 1) X.1 X.2.1 jd_M_record_184 (by decide) ?_
          refine kn_cne X.1 X.2.1 jd_M_record_185 (tgt := 207) (by decide) (by omega) (fun h185 => ?_) (fun h185 => absurd h185 (by omega))
          refine lv_aload_n X.1 X.2.1 jd_M_record_207 rfl (lv_at hl 2 rfl) ?_
          refine jg_M_20_33 X hP jd_M_record_208 ?_
          refine lv_iload_n X.1 X.2.1 jd_M_record_211 rfl (lv_at hl 4 rfl) ?_
          refine lv_iload X.1 X.2.1 jd_M_record_212 (lv_at hl 1 rfl) ?_
          refine kn_iadd X.1 X.2.1 jd_M_record_214 ?_
          refine j_zald X hP 37 (f + k) (by decide) (show (f + k) < 128 from by omega) (by decide) jd_M_record_215 ?_
          refine kn_to (y := (nr0 (ku n 33 0 0) f b v k) 37 (f + k)) (rfl) ?_
          refine j_zast X hap hP hS 37 (f + k) ((nr0 (ku n 33 0 0) f b v k) 37 (f + k)) (by decide) (show (f + k) < 128 from by omega) (by decide) (by rw [nr0_37]; exact h37 _) jd_M_record_216 (fun H locs hP hS => ?_)
          refine lv_iinc (k := 1) (v := nI (k + 1)) X.1 X.2.1 jd_M_record_217 hl rfl (kn_inc _) (by decide) rfl (fun ls hl => ?_)
          have hl : lv_has ls 10 [(8, .int (nI (k + 1))), (9, .int (nI (f + k))), (0, .ref (a 33)), (1, .int (nI 0)), (2, .int (nI f)), (3, .int (nI k0)), (4, .int (nI b)), (5, .int (nI v)), (6, .int (nI z))] := hl
          refine lv_goto X.1 X.2.1 jd_M_record_220 (tgt := 121) (by decide) ?_
          have hl : lv_has ls 10 [(8, .int (nI (k + 1))), (0, .ref (a 33)), (1, .int (nI 0)), (2, .int (nI f)), (3, .int (nI k0)), (4, .int (nI b)), (5, .int (nI v)), (6, .int (nI z))] := lv_sub hl [0, 2, 3, 4, 5, 6, 7, 8] rfl
          exact ihrN (k + 1) H locs ls (by omega) hP hS hl
      have hl : lv_has ls 10 [(8, .int (nI 0)), (0, .ref (a 33)), (1, .int (nI 0)), (2, .int (nI f)), (3, .int (nI k0)), (4, .int (nI b)), (5, .int (nI v)), (6, .int (nI z))] := lv_sub hl [0, 2, 3, 4, 5, 6, 7, 8] rfl
      exact loopN (k0) 0 H locs ls (by omega) hP hS hl
    | succ r ihr => 
      intro k ls hk hl
      refine lv_iload X.1 X.2.1 jd_M_record_65 (lv_at hl 0 rfl) ?_
      refine lv_iload_n X.1 X.2.1 jd_M_record_67 rfl (lv_at hl 5 rfl) ?_
      refine kn_cge X.1 X.2.1 jd_M_record_68 (tgt := 107) (by decide) (by omega) (fun h68 => absurd h68 (by omega)) (fun h68 => ?_)
      refine lv_iload X.1 X.2.1 jd_M_record_71 (lv_at hl 1 rfl) ?_
      refine kn_eq0 X.1 X.2.1 jd_M_record_73 (tgt := 98) (by decide) (by have := frF_lt (n 34) (f) k; omega) (fun h73 => ?_) (fun h73 => ?_)
      · skip
        refine lv_iconst (v := nI 0) X.1 X.2.1 jd_M_record_98 (by decide) ?_
        refine lv_istore X.1 X.2.1 jd_M_record_99 hl (by decide) rfl (fun ls hl => ?_)
        have hl : lv_has ls 10 [(7, .int (nI 0)), (8, .int (nI k)), (0, .ref (a 33)), (1, .int (nI 0)), (2, .int (nI f)), (3, .int (nI k0)), (4, .int (nI b)), (5, .int (nI v)), (6, .int (nI z))] := hl
        refine lv_iinc (k := 1) (v := nI (k + 1)) X.1 X.2.1 jd_M_record_101 hl rfl (kn_inc _) (by decide) rfl (fun ls hl => ?_)
        have hl : lv_has ls 10 [(8, .int (nI (k + 1))), (7, .int (nI 0)), (0, .ref (a 33)), (1, .int (nI 0)), (2, .int (nI f)), (3, .int (nI k0)), (4, .int (nI b)), (5, .int (nI v)), (6, .int (nI z))] := hl
        refine lv_goto X.1 X.2.1 jd_M_record_104 (tgt := 65) (by decide) ?_
        have hl : lv_has ls 10 [(8, .int (nI (k + 1))), (7, .int (nI (frF (n 34) (f) (k + 1)))), (0, .ref (a 33)), (1, .int (nI 0)), (2, .int (nI f)), (3, .int (nI k0)), (4, .int (nI b)), (5, .int (nI v)), (6, .int (nI z))] := by first | exact lv_sub hl [0, 1, 2, 3, 4, 5, 6, 7, 8] rfl | (simp only [frF]; first | (rw [if_pos (by first | exact h73 | omega)]; rw [if_pos (by first | exact h91 | omega)]; exact lv_sub hl [0, 1, 2, 3, 4, 5, 6, 7, 8] rfl) | (rw [if_pos (by first | exact h73 | omega)]; rw [if_neg (by first | exact h91 | omega)]; exact lv_sub hl [0, 1, 2, 3, 4, 5, 6, 7, 8] rfl) | (rw [if_neg (by first | exact h73 | omega)]; rw [if_pos (by first | exact h91 | omega)]; exact lv_sub hl [0, 1, 2, 3, 4, 5, 6, 7, 8] rfl) | (rw [if_neg (by first | exact h73 | omega)]; rw [if_neg (by first | exact h91 | omega)]; exact lv_sub hl [0, 1, 2, 3, 4, 5, 6, 7, 8] rfl) | (rw [if_pos (by first | exact h73 | omega)]; exact lv_sub hl [0, 1, 2, 3, 4, 5, 6, 7, 8] rfl) | (rw [if_neg (by first | exact h73 | omega)]; exact lv_sub hl [0, 1, 2, 3, 4, 5, 6, 7, 8] rfl))
        exact ihr (k + 1) ls (by omega) hl
      · skip
        refine lv_aload_n X.1 X.2.1 jd_M_record_76 rfl (lv_at hl 2 rfl) ?_
        refine jg_M_7_33 X hP jd_M_record_77 ?_
        refine lv_sipush (v := nI 128) X.1 X.2.1 jd_M_record_80 (by decide) ?_
        refine lv_iload_n X.1 X.2.1 jd_M_record_83 rfl (lv_at hl 3 rfl) ?_
        refine kn_imul X.1 X.2.1 jd_M_record_84 ?_
        refine kn_to (y := 0) (by omega) ?_
        refine lv_iload_n X.1 X.2.1 jd_M_record_85 rfl (lv_at hl 4 rfl) ?_
        refine kn_iadd X.1 X.2.1 jd_M_record_86 ?_
        refine kn_to (y := f) (by omega) ?_
        refine lv_iload X.1 X.2.1 jd_M_record_87 (lv_at hl 0 rfl) ?_
        refine kn_iadd X.1 X.2.1 jd_M_record_89 ?_
        refine j_zald X hP 34 (f + k) (by decide) (show (f + k) < 256 from by omega) (by decide) jd_M_record_90 ?_
        refine kn_to (y := n 34 (f + k)) (rfl) ?_
        refine kn_ne0 X.1 X.2.1 jd_M_record_91 (tgt := 98) (by decide) (hB _ _) (fun h91 => ?_) (fun h91 => ?_)
        · skip
          refine lv_iconst (v := nI 0) X.1 X.2.1 jd_M_record_98 (by decide) ?_
          refine lv_istore X.1 X.2.1 jd_M_record_99 hl (by decide) rfl (fun ls hl => ?_)
          have hl : lv_has ls 10 [(7, .int (nI 0)), (8, .int (nI k)), (0, .ref (a 33)), (1, .int (nI 0)), (2, .int (nI f)), (3, .int (nI k0)), (4, .int (nI b)), (5, .int (nI v)), (6, .int (nI z))] := hl
          refine lv_iinc (k := 1) (v := nI (k + 1)) X.1 X.2.1 jd_M_record_101 hl rfl (kn_inc _) (by decide) rfl (fun ls hl => ?_)
          have hl : lv_has ls 10 [(8, .int (nI (k + 1))), (7, .int (nI 0)), (0, .ref (a 33)), (1, .int (nI 0)), (2, .int (nI f)), (3, .int (nI k0)), (4, .int (nI b)), (5, .int (nI v)), (6, .int (nI z))] := hl
          refine lv_goto X.1 X.2.1 jd_M_record_104 (tgt := 65) (by decide) ?_
          have hl : lv_has ls 10 [(8, .int (nI (k + 1))), (7, .int (nI (frF (n 34) (f) (k + 1)))), (0, .ref (a 33)), (1, .int (nI 0)), (2, .int (nI f)), (3, .int (nI k0)), (4, .int (nI b)), (5, .int (nI v)), (6, .int (nI z))] := by first | exact lv_sub hl [0, 1, 2, 3, 4, 5, 6, 7, 8] rfl | (simp only [frF]; first | (rw [if_pos (by first | exact h73 | omega)]; rw [if_pos (by first | exact h91 | omega)]; exact lv_sub hl [0, 1, 2, 3, 4, 5, 6, 7, 8] rfl) | (rw [if_pos (by first | exact h73 | omega)]; rw [if_neg (by first | exact h91 | omega)]; exact lv_sub hl [0, 1, 2, 3, 4, 5, 6, 7, 8] rfl) | (rw [if_neg (by first | exact h73 | omega)]; rw [if_pos (by first | exact h91 | omega)]; exact lv_sub hl [0, 1, 2, 3, 4, 5, 6, 7, 8] rfl) | (rw [if_neg (by first | exact h73 | omega)]; rw [if_neg (by first | exact h91 | omega)]; exact lv_sub hl [0, 1, 2, 3, 4, 5, 6, 7, 8] rfl) | (rw [if_pos (by first | exact h73 | omega)]; exact lv_sub hl [0, 1, 2, 3, 4, 5, 6, 7, 8] rfl) | (rw [if_neg (by first | exact h73 | omega)]; exact lv_sub hl [0, 1, 2, 3, 4, 5, 6, 7, 8] rfl))
          exact ihr (k + 1) ls (by omega) hl
        · skip
          refine lv_iconst (v := nI 1) X.1 X.2.1 jd_M_record_94 (by decide) ?_
          refine lv_goto X.1 X.2.1 jd_M_record_95 (tgt := 99) (by decide) ?_
          refine lv_istore X.1 X.2.1 jd_M_record_99 hl (by decide) rfl (fun ls hl => ?_)
          have hl : lv_has ls 10 [(7, .int (nI 1)), (8, .int (nI k)), (0, .ref (a 33)), (1, .int (nI 0)), (2, .int (nI f)), (3, .int (nI k0)), (4, .int (nI b)), (5, .int (nI v)), (6, .int (nI z))] := hl
          refine lv_iinc (k := 1) (v := nI (k + 1)) X.1 X.2.1 jd_M_record_101 hl rfl (kn_inc _) (by decide) rfl (fun ls hl => ?_)
          have hl : lv_has ls 10 [(8, .int (nI (k + 1))), (7, .int (nI 1)), (0, .ref (a 33)), (1, .int (nI 0)), (2, .int (nI f)), (3, .int (nI k0)), (4, .int (nI b)), (5, .int (nI v)), (6, .int (nI z))] := hl
          refine lv_goto X.1 X.2.1 jd_M_record_104 (tgt := 65) (by decide) ?_
          have hl : lv_has ls 10 [(8, .int (nI (k + 1))), (7, .int (nI (frF (n 34) (f) (k + 1)))), (0, .ref (a 33)), (1, .int (nI 0)), (2, .int (nI f)), (3, .int (nI k0)), (4, .int (nI b)), (5, .int (nI v)), (6, .int (nI z))] := by first | exact lv_sub hl [0, 1, 2, 3, 4, 5, 6, 7, 8] rfl | (simp only [frF]; first | (rw [if_pos (by first | exact h73 | omega)]; rw [if_pos (by first | exact h91 | omega)]; exact lv_sub hl [0, 1, 2, 3, 4, 5, 6, 7, 8] rfl) | (rw [if_pos (by first | exact h73 | omega)]; rw [if_neg (by first | exact h91 | omega)]; exact lv_sub hl [0, 1, 2, 3, 4, 5, 6, 7, 8] rfl) | (rw [if_neg (by first | exact h73 | omega)]; rw [if_pos (by first | exact h91 | omega)]; exact lv_sub hl [0, 1, 2, 3, 4, 5, 6, 7, 8] rfl) | (rw [if_neg (by first | exact h73 | omega)]; rw [if_neg (by first | exact h91 | omega)]; exact lv_sub hl [0, 1, 2, 3, 4, 5, 6, 7, 8] rfl) | (rw [if_pos (by first | exact h73 | omega)]; exact lv_sub hl [0, 1, 2, 3, 4, 5, 6, 7, 8] rfl) | (rw [if_neg (by first | exact h73 | omega)]; exact lv_sub hl [0, 1, 2, 3, 4, 5, 6, 7, 8] rfl))
          exact ihr (k + 1) ls (by omega) hl
  have hl : lv_has ls 10 [(8, .int (nI 0)), (7, .int (nI (frF (n 34) (f) 0))), (0, .ref (a 33)), (1, .int (nI 0)), (2, .int (nI f)), (3, .int (nI k0)), (4, .int (nI b)), (5, .int (nI v)), (6, .int (nI z))] := lv_sub hl [0, 1, 2, 3, 4, 5, 6, 7, 8] rfl
  exact loop65 (k0) 0 ls (by omega) hl

set_option maxHeartbeats 4000000 in
theorem c_M_record_2a_1 (l : Launch) (d : Nat → Nat) (D : va_G) (a : Nat → Nat) (n : Nat → Nat → Nat) (g : Nat → Nat) (hap : ∀ i j : Nat, i < 52 → j < 52 → a i = a j → i = j) (hB : NB n) (f k0 b v z : Nat) (hk1 : 1 ≤ k0) (hk2 : k0 ≤ 32) (hf : f + k0 ≤ 128) (hs : ¬ n 33 1 = 0) : jEff l d D a n g jy_M_record jb_M_record 10 (some .int) { frames := 1, cells := 0, slots := 0, locals := 22 } [.ref (a 33), .int (nI 1), .int (nI f), .int (nI k0), .int (nI b), .int (nI v), .int (nI z)] (fun v9 n2 g2 => some (.int (nI 0)) = v9 ∧ ku (ku n 33 0 0) 33 0 2 = n2 ∧ g = g2) := by
  refine je_I (by decide) (Nat.le_of_ble_eq_true rfl) ?_
  intro p e s m A below meth c ls Q X hP hS hl hQ
  have hl : lv_has ls 10 [(0, .ref (a 33)), (1, .int (nI 1)), (2, .int (nI f)), (3, .int (nI k0)), (4, .int (nI b)), (5, .int (nI v)), (6, .int (nI z))] := hl
  refine lv_aload_n X.1 X.2.1 jd_M_record_0 rfl (lv_at hl 0 rfl) ?_
  refine lv_iload_n X.1 X.2.1 jd_M_record_1 rfl (lv_at hl 1 rfl) ?_
  refine j_run (j_mkS X (c_M_isStation l d D a n g 1 (by first | decide | omega)) jU_b (j_pp X hP) jm_711 jm_710 jm_6 jm_709 (show jOk jy_M_isStation 1 by unfold jOk; decide +kernel) (by decide) ⟨rfl, rfl⟩ hl.1 rfl (Nat.le_of_ble_eq_true rfl) ⟨Nat.zero_le _, Nat.zero_le _⟩ jd_M_record_2) ?_
  refine W.eq (g2 := F0 m 5 ls [.int (nI (if 1 < 2 then 1 else 0)), .ref (a 33)]) rfl ?_
  refine kn_to (y := 1) (if_pos (by first | decide | omega)) ?_
  refine kn_eq0 X.1 X.2.1 jd_M_record_5 (tgt := 35) (by decide) (by omega) (fun h5 => absurd h5 (by omega)) (fun h5 => ?_)
  refine lv_iload_n X.1 X.2.1 jd_M_record_8 rfl (lv_at hl 3 rfl) ?_
  refine lv_iconst (v := nI 1) X.1 X.2.1 jd_M_record_9 (by decide) ?_
  refine lv_bipush (v := nI 32) X.1 X.2.1 jd_M_record_10 (by decide) ?_
  refine j_run (j_mkS X (c_M_within l d D a n g k0 1 32 (by omega) (by omega) (by omega)) jU_b (j_pp X hP) jm_714 jm_713 jm_6 jm_712 (show jOk jy_M_within 3 by unfold jOk; decide +kernel) (by decide) ⟨rfl, rfl⟩ hl.1 rfl (Nat.le_of_ble_eq_true rfl) ⟨Nat.zero_le _, Nat.zero_le _⟩ jd_M_record_12) ?_
  refine W.eq (g2 := F0 m 15 ls [.int (nI (if 1 ≤ k0 ∧ k0 ≤ 32 then 1 else 0)), .ref (a 33)]) rfl ?_
  refine kn_to (y := 1) (if_pos (by omega)) ?_
  refine kn_eq0 X.1 X.2.1 jd_M_record_15 (tgt := 35) (by decide) (by omega) (fun h15 => absurd h15 (by omega)) (fun h15 => ?_)
  refine lv_iload_n X.1 X.2.1 jd_M_record_18 rfl (lv_at hl 2 rfl) ?_
  refine lv_iconst (v := nI 0) X.1 X.2.1 jd_M_record_19 (by decide) ?_
  refine lv_sipush (v := nI 128) X.1 X.2.1 jd_M_record_20 (by decide) ?_
  refine lv_iload_n X.1 X.2.1 jd_M_record_23 rfl (lv_at hl 3 rfl) ?_
  refine kn_isub X.1 X.2.1 jd_M_record_24 (by omega) ?_
  refine j_run (j_mkS X (c_M_within l d D a n g f 0 (128 - k0) (by omega) (by omega) (by omega)) jU_b (j_pp X hP) jm_714 jm_713 jm_6 jm_712 (show jOk jy_M_within 3 by unfold jOk; decide +kernel) (by decide) ⟨rfl, rfl⟩ hl.1 rfl (Nat.le_of_ble_eq_true rfl) ⟨Nat.zero_le _, Nat.zero_le _⟩ jd_M_record_25) ?_
  refine W.eq (g2 := F0 m 28 ls [.int (nI (if 0 ≤ f ∧ f ≤ (128 - k0) then 1 else 0)), .ref (a 33)]) rfl ?_
  refine kn_to (y := 1) (if_pos (by omega)) ?_
  refine kn_eq0 X.1 X.2.1 jd_M_record_28 (tgt := 35) (by decide) (by omega) (fun h28 => absurd h28 (by omega)) (fun h28 => ?_)
  refine lv_iconst (v := nI 0) X.1 X.2.1 jd_M_record_31 (by decide) ?_
  refine lv_goto X.1 X.2.1 jd_M_record_32 (tgt := 36) (by decide) ?_
  refine jp_M_66_33 X hap hP hS jd_M_record_36 (fun H locs hP hS => ?_)
  refine lv_aload_n X.1 X.2.1 jd_M_record_39 rfl (lv_at hl 0 rfl) ?_
  refine jg_M_66_33 X hP jd_M_record_40 ?_
  refine kn_to (y := 0) (rfl) ?_
  refine kn_le0 X.1 X.2.1 jd_M_record_43 (tgt := 48) (by decide) (by omega) (fun h43 => ?_) (fun h43 => absurd h43 (by omega))
  refine lv_aload_n X.1 X.2.1 jd_M_record_48 rfl (lv_at hl 0 rfl) ?_
  refine jg_M_77_33 X hP jd_M_record_49 ?_
  refine kn_to (y := n 33 1) (rfl) ?_
  refine kn_ne0 X.1 X.2.1 jd_M_record_52 (tgt := 59) (by decide) (hB _ _) (fun h52 => ?_) (fun h52 => absurd h52 (hs))
  refine lv_iconst (v := nI 0) X.1 X.2.1 jd_M_record_59 (by decide) ?_
  refine lv_istore X.1 X.2.1 jd_M_record_60 hl (by decide) rfl (fun ls hl => ?_)
  have hl : lv_has ls 10 [(7, .int (nI 0)), (0, .ref (a 33)), (1, .int (nI 1)), (2, .int (nI f)), (3, .int (nI k0)), (4, .int (nI b)), (5, .int (nI v)), (6, .int (nI z))] := hl
  refine lv_iconst (v := nI 0) X.1 X.2.1 jd_M_record_62 (by decide) ?_
  refine lv_istore X.1 X.2.1 jd_M_record_63 hl (by decide) rfl (fun ls hl => ?_)
  have hl : lv_has ls 10 [(8, .int (nI 0)), (7, .int (nI 0)), (0, .ref (a 33)), (1, .int (nI 1)), (2, .int (nI f)), (3, .int (nI k0)), (4, .int (nI b)), (5, .int (nI v)), (6, .int (nI z))] := hl
  have loop65 : ∀ (r k : Nat) (ls : Array Slot), k + r = k0 → lv_has ls 10 [(8, .int (nI k)), (7, .int (nI 0)), (0, .ref (a 33)), (1, .int (nI 1)), (2, .int (nI f)), (3, .int (nI k0)), (4, .int (nI b)), (5, .int (nI v)), (6, .int (nI z))] → W p l e { frames := 1, cells := 0, slots := 0, locals := 22 } s m A below meth c H locs 0 0 Q (F0 m 65 ls []) := by
    intro r
    induction r with
    | zero => 
      intro k ls hk hl
      obtain rfl : k0 = k := by omega
      refine lv_iload X.1 X.2.1 jd_M_record_65 (lv_at hl 0 rfl) ?_
      refine lv_iload_n X.1 X.2.1 jd_M_record_67 rfl (lv_at hl 5 rfl) ?_
      refine kn_cge X.1 X.2.1 jd_M_record_68 (tgt := 107) (by decide) (by omega) (fun h68 => ?_) (fun h68 => absurd h68 (by omega))
      refine lv_iload X.1 X.2.1 jd_M_record_107 (lv_at hl 1 rfl) ?_
      refine kn_ne0 X.1 X.2.1 jd_M_record_109 (tgt := 118) (by decide) (by omega) (fun h109 => absurd h109 (by omega)) (fun h109 => ?_)
      refine lv_aload_n X.1 X.2.1 jd_M_record_112 rfl (lv_at hl 2 rfl) ?_
      refine lv_iconst (v := nI 2) X.1 X.2.1 jd_M_record_113 (by decide) ?_
      refine j_rune (j_mkV X hP (c_M_refuse l d D a (ku n 33 0 0) g hap 2 _) jU_bs (j_pe X hP) jm_718 jm_717 js_39 jm_6 jm_715 (by decide) rfl rfl (show jOk jy_M_refuse 1 by unfold jOk; decide +kernel) (by decide) ⟨rfl, rfl⟩ hl.1 rfl (Nat.le_of_ble_eq_true rfl) ⟨Nat.zero_le _, Nat.zero_le _⟩ jd_M_record_114) hS (fun v114 n114 g114 H locs h114 hP hS => ?_)
      obtain ⟨rfl, rfl, rfl⟩ := h114
      refine W.eq (g2 := F0 m 117 ls [.int (nI 0)]) rfl ?_
      exact hQ _ _ _ _ _ _ _ (⟨rfl, rfl, rfl⟩) hP hS jd_M_record_117
    | succ r ihr => 
      intro k ls hk hl
      refine lv_iload X.1 X.2.1 jd_M_record_65 (lv_at hl 0 rfl) ?_
      refine lv_iload_n X.1 X.2.1 jd_M_record_67 rfl (lv_at hl 5 rfl) ?_
      refine kn_cge X.1 X.2.1 jd_M_record_68 (tgt := 107) (by decide) (by omega) (fun h68 => absurd h68 (by omega)) (fun h68 => ?_)
      refine lv_iload X.1 X.2.1 jd_M_record_71 (lv_at hl 1 rfl) ?_
      refine kn_eq0 X.1 X.2.1 jd_M_record_73 (tgt := 98) (by decide) (by omega) (fun h73 => ?_) (fun h73 => absurd h73 (by omega))
      refine lv_iconst (v := nI 0) X.1 X.2.1 jd_M_record_98 (by decide) ?_
      refine lv_istore X.1 X.2.1 jd_M_record_99 hl (by decide) rfl (fun ls hl => ?_)
      have hl : lv_has ls 10 [(7, .int (nI 0)), (8, .int (nI k)), (0, .ref (a 33)), (1, .int (nI 1)), (2, .int (nI f)), (3, .int (nI k0)), (4, .int (nI b)), (5, .int (nI v)), (6, .int (nI z))] := hl
      refine lv_iinc (k := 1) (v := nI (k + 1)) X.1 X.2.1 jd_M_record_101 hl rfl (kn_inc _) (by decide) rfl (fun ls hl => ?_)
      have hl : lv_has ls 10 [(8, .int (nI (k + 1))), (7, .int (nI 0)), (0, .ref (a 33)), (1, .int (nI 1)), (2, .int (nI f)), (3, .int (nI k0)), (4, .int (nI b)), (5, .int (nI v)), (6, .int (nI z))] := hl
      refine lv_goto X.1 X.2.1 jd_M_record_104 (tgt := 65) (by decide) ?_
      have hl : lv_has ls 10 [(8, .int (nI (k + 1))), (7, .int (nI 0)), (0, .ref (a 33)), (1, .int (nI 1)), (2, .int (nI f)), (3, .int (nI k0)), (4, .int (nI b)), (5, .int (nI v)), (6, .int (nI z))] := lv_sub hl [0, 1, 2, 3, 4, 5, 6, 7, 8] rfl
      exact ihr (k + 1) ls (by omega) hl
  have hl : lv_has ls 10 [(8, .int (nI 0)), (7, .int (nI 0)), (0, .ref (a 33)), (1, .int (nI 1)), (2, .int (nI f)), (3, .int (nI k0)), (4, .int (nI b)), (5, .int (nI v)), (6, .int (nI z))] := lv_sub hl [0, 1, 2, 3, 4, 5, 6, 7, 8] rfl
  exact loop65 (k0) 0 ls (by omega) hl

set_option maxHeartbeats 4000000 in
theorem c_M_record_2b_1 (l : Launch) (d : Nat → Nat) (D : va_G) (a : Nat → Nat) (n : Nat → Nat → Nat) (g : Nat → Nat) (hap : ∀ i j : Nat, i < 52 → j < 52 → a i = a j → i = j) (hB : NB n) (f k0 b v z : Nat) (hk1 : 1 ≤ k0) (hk2 : k0 ≤ 32) (hf : f + k0 ≤ 128) (hs : n 33 1 = 0) (hany : ¬ anyF (n 34) (128 + f) k0 = 0) : jEff l d D a n g jy_M_record jb_M_record 10 (some .int) { frames := 1, cells := 0, slots := 0, locals := 22 } [.ref (a 33), .int (nI 1), .int (nI f), .int (nI k0), .int (nI b), .int (nI v), .int (nI z)] (fun v9 n2 g2 => some (.int (nI 0)) = v9 ∧ ku (ku n 33 0 0) 33 0 2 = n2 ∧ g = g2) := by
  refine je_I (by decide) (Nat.le_of_ble_eq_true rfl) ?_
  intro p e s m A below meth c ls Q X hP hS hl hQ
  have hl : lv_has ls 10 [(0, .ref (a 33)), (1, .int (nI 1)), (2, .int (nI f)), (3, .int (nI k0)), (4, .int (nI b)), (5, .int (nI v)), (6, .int (nI z))] := hl
  refine lv_aload_n X.1 X.2.1 jd_M_record_0 rfl (lv_at hl 0 rfl) ?_
  refine lv_iload_n X.1 X.2.1 jd_M_record_1 rfl (lv_at hl 1 rfl) ?_
  refine j_run (j_mkS X (c_M_isStation l d D a n g 1 (by first | decide | omega)) jU_b (j_pp X hP) jm_711 jm_710 jm_6 jm_709 (show jOk jy_M_isStation 1 by unfold jOk; decide +kernel) (by decide) ⟨rfl, rfl⟩ hl.1 rfl (Nat.le_of_ble_eq_true rfl) ⟨Nat.zero_le _, Nat.zero_le _⟩ jd_M_record_2) ?_
  refine W.eq (g2 := F0 m 5 ls [.int (nI (if 1 < 2 then 1 else 0)), .ref (a 33)]) rfl ?_
  refine kn_to (y := 1) (if_pos (by first | decide | omega)) ?_
  refine kn_eq0 X.1 X.2.1 jd_M_record_5 (tgt := 35) (by decide) (by omega) (fun h5 => absurd h5 (by omega)) (fun h5 => ?_)
  refine lv_iload_n X.1 X.2.1 jd_M_record_8 rfl (lv_at hl 3 rfl) ?_
  refine lv_iconst (v := nI 1) X.1 X.2.1 jd_M_record_9 (by decide) ?_
  refine lv_bipush (v := nI 32) X.1 X.2.1 jd_M_record_10 (by decide) ?_
  refine j_run (j_mkS X (c_M_within l d D a n g k0 1 32 (by omega) (by omega) (by omega)) jU_b (j_pp X hP) jm_714 jm_713 jm_6 jm_712 (show jOk jy_M_within 3 by unfold jOk; decide +kernel) (by decide) ⟨rfl, rfl⟩ hl.1 rfl (Nat.le_of_ble_eq_true rfl) ⟨Nat.zero_le _, Nat.zero_le _⟩ jd_M_record_12) ?_
  refine W.eq (g2 := F0 m 15 ls [.int (nI (if 1 ≤ k0 ∧ k0 ≤ 32 then 1 else 0)), .ref (a 33)]) rfl ?_
  refine kn_to (y := 1) (if_pos (by omega)) ?_
  refine kn_eq0 X.1 X.2.1 jd_M_record_15 (tgt := 35) (by decide) (by omega) (fun h15 => absurd h15 (by omega)) (fun h15 => ?_)
  refine lv_iload_n X.1 X.2.1 jd_M_record_18 rfl (lv_at hl 2 rfl) ?_
  refine lv_iconst (v := nI 0) X.1 X.2.1 jd_M_record_19 (by decide) ?_
  refine lv_sipush (v := nI 128) X.1 X.2.1 jd_M_record_20 (by decide) ?_
  refine lv_iload_n X.1 X.2.1 jd_M_record_23 rfl (lv_at hl 3 rfl) ?_
  refine kn_isub X.1 X.2.1 jd_M_record_24 (by omega) ?_
  refine j_run (j_mkS X (c_M_within l d D a n g f 0 (128 - k0) (by omega) (by omega) (by omega)) jU_b (j_pp X hP) jm_714 jm_713 jm_6 jm_712 (show jOk jy_M_within 3 by unfold jOk; decide +kernel) (by decide) ⟨rfl, rfl⟩ hl.1 rfl (Nat.le_of_ble_eq_true rfl) ⟨Nat.zero_le _, Nat.zero_le _⟩ jd_M_record_25) ?_
  refine W.eq (g2 := F0 m 28 ls [.int (nI (if 0 ≤ f ∧ f ≤ (128 - k0) then 1 else 0)), .ref (a 33)]) rfl ?_
  refine kn_to (y := 1) (if_pos (by omega)) ?_
  refine kn_eq0 X.1 X.2.1 jd_M_record_28 (tgt := 35) (by decide) (by omega) (fun h28 => absurd h28 (by omega)) (fun h28 => ?_)
  refine lv_iconst (v := nI 0) X.1 X.2.1 jd_M_record_31 (by decide) ?_
  refine lv_goto X.1 X.2.1 jd_M_record_32 (tgt := 36) (by decide) ?_
  refine jp_M_66_33 X hap hP hS jd_M_record_36 (fun H locs hP hS => ?_)
  refine lv_aload_n X.1 X.2.1 jd_M_record_39 rfl (lv_at hl 0 rfl) ?_
  refine jg_M_66_33 X hP jd_M_record_40 ?_
  refine kn_to (y := 0) (rfl) ?_
  refine kn_le0 X.1 X.2.1 jd_M_record_43 (tgt := 48) (by decide) (by omega) (fun h43 => ?_) (fun h43 => absurd h43 (by omega))
  refine lv_aload_n X.1 X.2.1 jd_M_record_48 rfl (lv_at hl 0 rfl) ?_
  refine jg_M_77_33 X hP jd_M_record_49 ?_
  refine kn_to (y := n 33 1) (rfl) ?_
  refine kn_ne0 X.1 X.2.1 jd_M_record_52 (tgt := 59) (by decide) (hB _ _) (fun h52 => absurd h52 (fun q => q hs)) (fun h52 => ?_)
  refine lv_iconst (v := nI 1) X.1 X.2.1 jd_M_record_55 (by decide) ?_
  refine lv_goto X.1 X.2.1 jd_M_record_56 (tgt := 60) (by decide) ?_
  refine lv_istore X.1 X.2.1 jd_M_record_60 hl (by decide) rfl (fun ls hl => ?_)
  have hl : lv_has ls 10 [(7, .int (nI 1)), (0, .ref (a 33)), (1, .int (nI 1)), (2, .int (nI f)), (3, .int (nI k0)), (4, .int (nI b)), (5, .int (nI v)), (6, .int (nI z))] := hl
  refine lv_iconst (v := nI 0) X.1 X.2.1 jd_M_record_62 (by decide) ?_
  refine lv_istore X.1 X.2.1 jd_M_record_63 hl (by decide) rfl (fun ls hl => ?_)
  have hl : lv_has ls 10 [(8, .int (nI 0)), (7, .int (nI 1)), (0, .ref (a 33)), (1, .int (nI 1)), (2, .int (nI f)), (3, .int (nI k0)), (4, .int (nI b)), (5, .int (nI v)), (6, .int (nI z))] := hl
  have loop65 : ∀ (r k : Nat) (ls : Array Slot), k + r = k0 → lv_has ls 10 [(8, .int (nI k)), (7, .int (nI (frF (n 34) (128 + f) k))), (0, .ref (a 33)), (1, .int (nI 1)), (2, .int (nI f)), (3, .int (nI k0)), (4, .int (nI b)), (5, .int (nI v)), (6, .int (nI z))] → W p l e { frames := 1, cells := 0, slots := 0, locals := 22 } s m A below meth c H locs 0 0 Q (F0 m 65 ls []) := by
    intro r
    induction r with
    | zero => 
      intro k ls hk hl
      obtain rfl : k0 = k := by omega
      refine lv_iload X.1 X.2.1 jd_M_record_65 (lv_at hl 0 rfl) ?_
      refine lv_iload_n X.1 X.2.1 jd_M_record_67 rfl (lv_at hl 5 rfl) ?_
      refine kn_cge X.1 X.2.1 jd_M_record_68 (tgt := 107) (by decide) (by omega) (fun h68 => ?_) (fun h68 => absurd h68 (by omega))
      refine lv_iload X.1 X.2.1 jd_M_record_107 (lv_at hl 1 rfl) ?_
      refine kn_ne0 X.1 X.2.1 jd_M_record_109 (tgt := 118) (by decide) (by have := frF_lt (n 34) (128 + f) k0; omega) (fun h109 => absurd h109 (by have := (frF_any (n 34) (128 + f) k0).mpr hany; omega)) (fun h109 => ?_)
      refine lv_aload_n X.1 X.2.1 jd_M_record_112 rfl (lv_at hl 2 rfl) ?_
      refine lv_iconst (v := nI 2) X.1 X.2.1 jd_M_record_113 (by decide) ?_
      refine j_rune (j_mkV X hP (c_M_refuse l d D a (ku n 33 0 0) g hap 2 _) jU_bs (j_pe X hP) jm_718 jm_717 js_39 jm_6 jm_715 (by decide) rfl rfl (show jOk jy_M_refuse 1 by unfold jOk; decide +kernel) (by decide) ⟨rfl, rfl⟩ hl.1 rfl (Nat.le_of_ble_eq_true rfl) ⟨Nat.zero_le _, Nat.zero_le _⟩ jd_M_record_114) hS (fun v114 n114 g114 H locs h114 hP hS => ?_)
      obtain ⟨rfl, rfl, rfl⟩ := h114
      refine W.eq (g2 := F0 m 117 ls [.int (nI 0)]) rfl ?_
      exact hQ _ _ _ _ _ _ _ (⟨rfl, rfl, rfl⟩) hP hS jd_M_record_117
    | succ r ihr => 
      intro k ls hk hl
      refine lv_iload X.1 X.2.1 jd_M_record_65 (lv_at hl 0 rfl) ?_
      refine lv_iload_n X.1 X.2.1 jd_M_record_67 rfl (lv_at hl 5 rfl) ?_
      refine kn_cge X.1 X.2.1 jd_M_record_68 (tgt := 107) (by decide) (by omega) (fun h68 => absurd h68 (by omega)) (fun h68 => ?_)
      refine lv_iload X.1 X.2.1 jd_M_record_71 (lv_at hl 1 rfl) ?_
      refine kn_eq0 X.1 X.2.1 jd_M_record_73 (tgt := 98) (by decide) (by have := frF_lt (n 34) (128 + f) k; omega) (fun h73 => ?_) (fun h73 => ?_)
      · skip
        refine lv_iconst (v := nI 0) X.1 X.2.1 jd_M_record_98 (by decide) ?_
        refine lv_istore X.1 X.2.1 jd_M_record_99 hl (by decide) rfl (fun ls hl => ?_)
        have hl : lv_has ls 10 [(7, .int (nI 0)), (8, .int (nI k)), (0, .ref (a 33)), (1, .int (nI 1)), (2, .int (nI f)), (3, .int (nI k0)), (4, .int (nI b)), (5, .int (nI v)), (6, .int (nI z))] := hl
        refine lv_iinc (k := 1) (v := nI (k + 1)) X.1 X.2.1 jd_M_record_101 hl rfl (kn_inc _) (by decide) rfl (fun ls hl => ?_)
        have hl : lv_has ls 10 [(8, .int (nI (k + 1))), (7, .int (nI 0)), (0, .ref (a 33)), (1, .int (nI 1)), (2, .int (nI f)), (3, .int (nI k0)), (4, .int (nI b)), (5, .int (nI v)), (6, .int (nI z))] := hl
        refine lv_goto X.1 X.2.1 jd_M_record_104 (tgt := 65) (by decide) ?_
        have hl : lv_has ls 10 [(8, .int (nI (k + 1))), (7, .int (nI (frF (n 34) (128 + f) (k + 1)))), (0, .ref (a 33)), (1, .int (nI 1)), (2, .int (nI f)), (3, .int (nI k0)), (4, .int (nI b)), (5, .int (nI v)), (6, .int (nI z))] := by first | exact lv_sub hl [0, 1, 2, 3, 4, 5, 6, 7, 8] rfl | (simp only [frF]; first | (rw [if_pos (by first | exact h73 | omega)]; rw [if_pos (by first | exact h91 | omega)]; exact lv_sub hl [0, 1, 2, 3, 4, 5, 6, 7, 8] rfl) | (rw [if_pos (by first | exact h73 | omega)]; rw [if_neg (by first | exact h91 | omega)]; exact lv_sub hl [0, 1, 2, 3, 4, 5, 6, 7, 8] rfl) | (rw [if_neg (by first | exact h73 | omega)]; rw [if_pos (by first | exact h91 | omega)]; exact lv_sub hl [0, 1, 2, 3, 4, 5, 6, 7, 8] rfl) | (rw [if_neg (by first | exact h73 | omega)]; rw [if_neg (by first | exact h91 | omega)]; exact lv_sub hl [0, 1, 2, 3, 4, 5, 6, 7, 8] rfl) | (rw [if_pos (by first | exact h73 | omega)]; exact lv_sub hl [0, 1, 2, 3, 4, 5, 6, 7, 8] rfl) | (rw [if_neg (by first | exact h73 | omega)]; exact lv_sub hl [0, 1, 2, 3, 4, 5, 6, 7, 8] rfl))
        exact ihr (k + 1) ls (by omega) hl
      · skip
        refine lv_aload_n X.1 X.2.1 jd_M_record_76 rfl (lv_at hl 2 rfl) ?_
        refine jg_M_7_33 X hP jd_M_record_77 ?_
        refine lv_sipush (v := nI 128) X.1 X.2.1 jd_M_record_80 (by decide) ?_
        refine lv_iload_n X.1 X.2.1 jd_M_record_83 rfl (lv_at hl 3 rfl) ?_
        refine kn_imul X.1 X.2.1 jd_M_record_84 ?_
        refine kn_to (y := 128) (by omega) ?_
        refine lv_iload_n X.1 X.2.1 jd_M_record_85 rfl (lv_at hl 4 rfl) ?_
        refine kn_iadd X.1 X.2.1 jd_M_record_86 ?_
        refine kn_to (y := 128 + f) (by omega) ?_
        refine lv_iload X.1 X.2.1 jd_M_record_87 (lv_at hl 0 rfl) ?_
        refine kn_iadd X.1 X.2.1 jd_M_record_89 ?_
        refine j_zald X hP 34 ((128 + f) + k) (by decide) (show ((128 + f) + k) < 256 from by omega) (by decide) jd_M_record_90 ?_
        refine kn_to (y := n 34 (128 + f + k)) (rfl) ?_
        refine kn_ne0 X.1 X.2.1 jd_M_record_91 (tgt := 98) (by decide) (hB _ _) (fun h91 => ?_) (fun h91 => ?_)
        · skip
          refine lv_iconst (v := nI 0) X.1 X.2.1 jd_M_record_98 (by decide) ?_
          refine lv_istore X.1 X.2.1 jd_M_record_99 hl (by decide) rfl (fun ls hl => ?_)
          have hl : lv_has ls 10 [(7, .int (nI 0)), (8, .int (nI k)), (0, .ref (a 33)), (1, .int (nI 1)), (2, .int (nI f)), (3, .int (nI k0)), (4, .int (nI b)), (5, .int (nI v)), (6, .int (nI z))] := hl
          refine lv_iinc (k := 1) (v := nI (k + 1)) X.1 X.2.1 jd_M_record_101 hl rfl (kn_inc _) (by decide) rfl (fun ls hl => ?_)
          have hl : lv_has ls 10 [(8, .int (nI (k + 1))), (7, .int (nI 0)), (0, .ref (a 33)), (1, .int (nI 1)), (2, .int (nI f)), (3, .int (nI k0)), (4, .int (nI b)), (5, .int (nI v)), (6, .int (nI z))] := hl
          refine lv_goto X.1 X.2.1 jd_M_record_104 (tgt := 65) (by decide) ?_
          have hl : lv_has ls 10 [(8, .int (nI (k + 1))), (7, .int (nI (frF (n 34) (128 + f) (k + 1)))), (0, .ref (a 33)), (1, .int (nI 1)), (2, .int (nI f)), (3, .int (nI k0)), (4, .int (nI b)), (5, .int (nI v)), (6, .int (nI z))] := by first | exact lv_sub hl [0, 1, 2, 3, 4, 5, 6, 7, 8] rfl | (simp only [frF]; first | (rw [if_pos (by first | exact h73 | omega)]; rw [if_pos (by first | exact h91 | omega)]; exact lv_sub hl [0, 1, 2, 3, 4, 5, 6, 7, 8] rfl) | (rw [if_pos (by first | exact h73 | omega)]; rw [if_neg (by first | exact h91 | omega)]; exact lv_sub hl [0, 1, 2, 3, 4, 5, 6, 7, 8] rfl) | (rw [if_neg (by first | exact h73 | omega)]; rw [if_pos (by first | exact h91 | omega)]; exact lv_sub hl [0, 1, 2, 3, 4, 5, 6, 7, 8] rfl) | (rw [if_neg (by first | exact h73 | omega)]; rw [if_neg (by first | exact h91 | omega)]; exact lv_sub hl [0, 1, 2, 3, 4, 5, 6, 7, 8] rfl) | (rw [if_pos (by first | exact h73 | omega)]; exact lv_sub hl [0, 1, 2, 3, 4, 5, 6, 7, 8] rfl) | (rw [if_neg (by first | exact h73 | omega)]; exact lv_sub hl [0, 1, 2, 3, 4, 5, 6, 7, 8] rfl))
          exact ihr (k + 1) ls (by omega) hl
        · skip
          refine lv_iconst (v := nI 1) X.1 X.2.1 jd_M_record_94 (by decide) ?_
          refine lv_goto X.1 X.2.1 jd_M_record_95 (tgt := 99) (by decide) ?_
          refine lv_istore X.1 X.2.1 jd_M_record_99 hl (by decide) rfl (fun ls hl => ?_)
          have hl : lv_has ls 10 [(7, .int (nI 1)), (8, .int (nI k)), (0, .ref (a 33)), (1, .int (nI 1)), (2, .int (nI f)), (3, .int (nI k0)), (4, .int (nI b)), (5, .int (nI v)), (6, .int (nI z))] := hl
          refine lv_iinc (k := 1) (v := nI (k + 1)) X.1 X.2.1 jd_M_record_101 hl rfl (kn_inc _) (by decide) rfl (fun ls hl => ?_)
          have hl : lv_has ls 10 [(8, .int (nI (k + 1))), (7, .int (nI 1)), (0, .ref (a 33)), (1, .int (nI 1)), (2, .int (nI f)), (3, .int (nI k0)), (4, .int (nI b)), (5, .int (nI v)), (6, .int (nI z))] := hl
          refine lv_goto X.1 X.2.1 jd_M_record_104 (tgt := 65) (by decide) ?_
          have hl : lv_has ls 10 [(8, .int (nI (k + 1))), (7, .int (nI (frF (n 34) (128 + f) (k + 1)))), (0, .ref (a 33)), (1, .int (nI 1)), (2, .int (nI f)), (3, .int (nI k0)), (4, .int (nI b)), (5, .int (nI v)), (6, .int (nI z))] := by first | exact lv_sub hl [0, 1, 2, 3, 4, 5, 6, 7, 8] rfl | (simp only [frF]; first | (rw [if_pos (by first | exact h73 | omega)]; rw [if_pos (by first | exact h91 | omega)]; exact lv_sub hl [0, 1, 2, 3, 4, 5, 6, 7, 8] rfl) | (rw [if_pos (by first | exact h73 | omega)]; rw [if_neg (by first | exact h91 | omega)]; exact lv_sub hl [0, 1, 2, 3, 4, 5, 6, 7, 8] rfl) | (rw [if_neg (by first | exact h73 | omega)]; rw [if_pos (by first | exact h91 | omega)]; exact lv_sub hl [0, 1, 2, 3, 4, 5, 6, 7, 8] rfl) | (rw [if_neg (by first | exact h73 | omega)]; rw [if_neg (by first | exact h91 | omega)]; exact lv_sub hl [0, 1, 2, 3, 4, 5, 6, 7, 8] rfl) | (rw [if_pos (by first | exact h73 | omega)]; exact lv_sub hl [0, 1, 2, 3, 4, 5, 6, 7, 8] rfl) | (rw [if_neg (by first | exact h73 | omega)]; exact lv_sub hl [0, 1, 2, 3, 4, 5, 6, 7, 8] rfl))
          exact ihr (k + 1) ls (by omega) hl
  have hl : lv_has ls 10 [(8, .int (nI 0)), (7, .int (nI (frF (n 34) (128 + f) 0))), (0, .ref (a 33)), (1, .int (nI 1)), (2, .int (nI f)), (3, .int (nI k0)), (4, .int (nI b)), (5, .int (nI v)), (6, .int (nI z))] := lv_sub hl [0, 1, 2, 3, 4, 5, 6, 7, 8] rfl
  exact loop65 (k0) 0 ls (by omega) hl

set_option maxHeartbeats 4000000 in
theorem c_M_record_g_1 (l : Launch) (d : Nat → Nat) (D : va_G) (a : Nat → Nat) (n : Nat → Nat → Nat) (g : Nat → Nat) (hap : ∀ i j : Nat, i < 52 → j < 52 → a i = a j → i = j) (hB : NB n) (f k0 b v z : Nat) (hk1 : 1 ≤ k0) (hk2 : k0 ≤ 32) (hf : f + k0 ≤ 128) (hs : n 33 1 = 0) (hany : anyF (n 34) (128 + f) k0 = 0) (h37 : ∀ i, n 37 i < 2) : jEff l d D a n g jy_M_record jb_M_record 10 (some .int) { frames := 1, cells := 0, slots := 0, locals := 22 } [.ref (a 33), .int (nI 1), .int (nI f), .int (nI k0), .int (nI b), .int (nI v), .int (nI z)] (fun v9 n2 g2 => some (.int (nI (ctF (fun i => (nr1 (ku n 33 0 0) f b v z k0) 34 (128 + i)) 128))) = v9 ∧ (nr1 (ku n 33 0 0) f b v z k0) = n2 ∧ g = g2) := by
  refine je_I (by decide) (Nat.le_of_ble_eq_true rfl) ?_
  intro p e s m A below meth c ls Q X hP hS hl hQ
  have hl : lv_has ls 10 [(0, .ref (a 33)), (1, .int (nI 1)), (2, .int (nI f)), (3, .int (nI k0)), (4, .int (nI b)), (5, .int (nI v)), (6, .int (nI z))] := hl
  refine lv_aload_n X.1 X.2.1 jd_M_record_0 rfl (lv_at hl 0 rfl) ?_
  refine lv_iload_n X.1 X.2.1 jd_M_record_1 rfl (lv_at hl 1 rfl) ?_
  refine j_run (j_mkS X (c_M_isStation l d D a n g 1 (by first | decide | omega)) jU_b (j_pp X hP) jm_711 jm_710 jm_6 jm_709 (show jOk jy_M_isStation 1 by unfold jOk; decide +kernel) (by decide) ⟨rfl, rfl⟩ hl.1 rfl (Nat.le_of_ble_eq_true rfl) ⟨Nat.zero_le _, Nat.zero_le _⟩ jd_M_record_2) ?_
  refine W.eq (g2 := F0 m 5 ls [.int (nI (if 1 < 2 then 1 else 0)), .ref (a 33)]) rfl ?_
  refine kn_to (y := 1) (if_pos (by first | decide | omega)) ?_
  refine kn_eq0 X.1 X.2.1 jd_M_record_5 (tgt := 35) (by decide) (by omega) (fun h5 => absurd h5 (by omega)) (fun h5 => ?_)
  refine lv_iload_n X.1 X.2.1 jd_M_record_8 rfl (lv_at hl 3 rfl) ?_
  refine lv_iconst (v := nI 1) X.1 X.2.1 jd_M_record_9 (by decide) ?_
  refine lv_bipush (v := nI 32) X.1 X.2.1 jd_M_record_10 (by decide) ?_
  refine j_run (j_mkS X (c_M_within l d D a n g k0 1 32 (by omega) (by omega) (by omega)) jU_b (j_pp X hP) jm_714 jm_713 jm_6 jm_712 (show jOk jy_M_within 3 by unfold jOk; decide +kernel) (by decide) ⟨rfl, rfl⟩ hl.1 rfl (Nat.le_of_ble_eq_true rfl) ⟨Nat.zero_le _, Nat.zero_le _⟩ jd_M_record_12) ?_
  refine W.eq (g2 := F0 m 15 ls [.int (nI (if 1 ≤ k0 ∧ k0 ≤ 32 then 1 else 0)), .ref (a 33)]) rfl ?_
  refine kn_to (y := 1) (if_pos (by omega)) ?_
  refine kn_eq0 X.1 X.2.1 jd_M_record_15 (tgt := 35) (by decide) (by omega) (fun h15 => absurd h15 (by omega)) (fun h15 => ?_)
  refine lv_iload_n X.1 X.2.1 jd_M_record_18 rfl (lv_at hl 2 rfl) ?_
  refine lv_iconst (v := nI 0) X.1 X.2.1 jd_M_record_19 (by decide) ?_
  refine lv_sipush (v := nI 128) X.1 X.2.1 jd_M_record_20 (by decide) ?_
  refine lv_iload_n X.1 X.2.1 jd_M_record_23 rfl (lv_at hl 3 rfl) ?_
  refine kn_isub X.1 X.2.1 jd_M_record_24 (by omega) ?_
  refine j_run (j_mkS X (c_M_within l d D a n g f 0 (128 - k0) (by omega) (by omega) (by omega)) jU_b (j_pp X hP) jm_714 jm_713 jm_6 jm_712 (show jOk jy_M_within 3 by unfold jOk; decide +kernel) (by decide) ⟨rfl, rfl⟩ hl.1 rfl (Nat.le_of_ble_eq_true rfl) ⟨Nat.zero_le _, Nat.zero_le _⟩ jd_M_record_25) ?_
  refine W.eq (g2 := F0 m 28 ls [.int (nI (if 0 ≤ f ∧ f ≤ (128 - k0) then 1 else 0)), .ref (a 33)]) rfl ?_
  refine kn_to (y := 1) (if_pos (by omega)) ?_
  refine kn_eq0 X.1 X.2.1 jd_M_record_28 (tgt := 35) (by decide) (by omega) (fun h28 => absurd h28 (by omega)) (fun h28 => ?_)
  refine lv_iconst (v := nI 0) X.1 X.2.1 jd_M_record_31 (by decide) ?_
  refine lv_goto X.1 X.2.1 jd_M_record_32 (tgt := 36) (by decide) ?_
  refine jp_M_66_33 X hap hP hS jd_M_record_36 (fun H locs hP hS => ?_)
  refine lv_aload_n X.1 X.2.1 jd_M_record_39 rfl (lv_at hl 0 rfl) ?_
  refine jg_M_66_33 X hP jd_M_record_40 ?_
  refine kn_to (y := 0) (rfl) ?_
  refine kn_le0 X.1 X.2.1 jd_M_record_43 (tgt := 48) (by decide) (by omega) (fun h43 => ?_) (fun h43 => absurd h43 (by omega))
  refine lv_aload_n X.1 X.2.1 jd_M_record_48 rfl (lv_at hl 0 rfl) ?_
  refine jg_M_77_33 X hP jd_M_record_49 ?_
  refine kn_to (y := n 33 1) (rfl) ?_
  refine kn_ne0 X.1 X.2.1 jd_M_record_52 (tgt := 59) (by decide) (hB _ _) (fun h52 => absurd h52 (fun q => q hs)) (fun h52 => ?_)
  refine lv_iconst (v := nI 1) X.1 X.2.1 jd_M_record_55 (by decide) ?_
  refine lv_goto X.1 X.2.1 jd_M_record_56 (tgt := 60) (by decide) ?_
  refine lv_istore X.1 X.2.1 jd_M_record_60 hl (by decide) rfl (fun ls hl => ?_)
  have hl : lv_has ls 10 [(7, .int (nI 1)), (0, .ref (a 33)), (1, .int (nI 1)), (2, .int (nI f)), (3, .int (nI k0)), (4, .int (nI b)), (5, .int (nI v)), (6, .int (nI z))] := hl
  refine lv_iconst (v := nI 0) X.1 X.2.1 jd_M_record_62 (by decide) ?_
  refine lv_istore X.1 X.2.1 jd_M_record_63 hl (by decide) rfl (fun ls hl => ?_)
  have hl : lv_has ls 10 [(8, .int (nI 0)), (7, .int (nI 1)), (0, .ref (a 33)), (1, .int (nI 1)), (2, .int (nI f)), (3, .int (nI k0)), (4, .int (nI b)), (5, .int (nI v)), (6, .int (nI z))] := hl
  have loop65 : ∀ (r k : Nat) (ls : Array Slot), k + r = k0 → lv_has ls 10 [(8, .int (nI k)), (7, .int (nI (frF (n 34) (128 + f) k))), (0, .ref (a 33)), (1, .int (nI 1)), (2, .int (nI f)), (3, .int (nI k0)), (4, .int (nI b)), (5, .int (nI v)), (6, .int (nI z))] → W p l e { frames := 1, cells := 0, slots := 0, locals := 22 } s m A below meth c H locs 0 0 Q (F0 m 65 ls []) := by
    intro r
    induction r with
    | zero => 
      intro k ls hk hl
      obtain rfl : k0 = k := by omega
      refine lv_iload X.1 X.2.1 jd_M_record_65 (lv_at hl 0 rfl) ?_
      refine lv_iload_n X.1 X.2.1 jd_M_record_67 rfl (lv_at hl 5 rfl) ?_
      refine kn_cge X.1 X.2.1 jd_M_record_68 (tgt := 107) (by decide) (by omega) (fun h68 => ?_) (fun h68 => absurd h68 (by omega))
      refine lv_iload X.1 X.2.1 jd_M_record_107 (lv_at hl 1 rfl) ?_
      refine kn_ne0 X.1 X.2.1 jd_M_record_109 (tgt := 118) (by decide) (by have := frF_lt (n 34) (128 + f) k0; omega) (fun h109 => ?_) (fun h109 => absurd h109 (by have := mt (frF_any (n 34) (128 + f) k0).mp (fun q => q hany); omega))
      refine lv_iconst (v := nI 0) X.1 X.2.1 jd_M_record_118 (by decide) ?_
      refine lv_istore X.1 X.2.1 jd_M_record_119 hl (by decide) rfl (fun ls hl => ?_)
      have hl : lv_has ls 10 [(8, .int (nI 0)), (7, .int (nI (frF (n 34) (128 + f) k0))), (0, .ref (a 33)), (1, .int (nI 1)), (2, .int (nI f)), (3, .int (nI k0)), (4, .int (nI b)), (5, .int (nI v)), (6, .int (nI z))] := hl
      have loopN : ∀ (rN k : Nat) (H : Heap) (locs : List Loc) (ls : Array Slot), k + rN = k0 → va_P D jCl (jW d a (nr1 (ku n 33 0 0) f b v z k) g) H → va_S (jAa a s.heap.size) s.heap H locs → lv_has ls 10 [(8, .int (nI k)), (0, .ref (a 33)), (1, .int (nI 1)), (2, .int (nI f)), (3, .int (nI k0)), (4, .int (nI b)), (5, .int (nI v)), (6, .int (nI z))] → W p l e { frames := 1, cells := 0, slots := 0, locals := 22 } s m A below meth c H locs 0 0 Q (F0 m 121 ls []) := by
        intro rN
        induction rN with
        | zero => 
          intro k H locs ls hk hP hS hl
          obtain rfl : k0 = k := by omega
          refine lv_iload X.1 X.2.1 jd_M_record_121 (lv_at hl 0 rfl) ?_
          refine lv_iload_n X.1 X.2.1 jd_M_record_123 rfl (lv_at hl 4 rfl) ?_
          refine kn_cge X.1 X.2.1 jd_M_record_124 (tgt := 223) (by decide) (by omega) (fun h124 => ?_) (fun h124 => absurd h124 (by omega))
          refine lv_iconst (v := nI 0) X.1 X.2.1 jd_M_record_223 (by decide) ?_
          refine lv_istore X.1 X.2.1 jd_M_record_224 hl (by decide) rfl (fun ls hl => ?_)
          have hl : lv_has ls 10 [(8, .int (nI 0)), (0, .ref (a 33)), (1, .int (nI 1)), (2, .int (nI f)), (3, .int (nI k0)), (4, .int (nI b)), (5, .int (nI v)), (6, .int (nI z))] := hl
          refine lv_iconst (v := nI 0) X.1 X.2.1 jd_M_record_226 (by decide) ?_
          refine lv_istore X.1 X.2.1 jd_M_record_227 hl (by decide) rfl (fun ls hl => ?_)
          have hl : lv_has ls 10 [(9, .int (nI 0)), (8, .int (nI 0)), (0, .ref (a 33)), (1, .int (nI 1)), (2, .int (nI f)), (3, .int (nI k0)), (4, .int (nI b)), (5, .int (nI v)), (6, .int (nI z))] := hl
          have loopC : ∀ (rC k : Nat) (ls : Array Slot), k + rC = 128 → lv_has ls 10 [(9, .int (nI k)), (8, .int (nI (ctF (fun i => (nr1 (ku n 33 0 0) f b v z k0) 34 (128 + i)) k))), (0, .ref (a 33)), (1, .int (nI 1))] → W p l e { frames := 1, cells := 0, slots := 0, locals := 22 } s m A below meth c H locs 0 0 Q (F0 m 229 ls []) := by
            intro rC
            induction rC with
            | zero => 
              intro k ls hk hl
              obtain rfl : 128 = k := by omega
              refine lv_iload X.1 X.2.1 jd_M_record_229 (lv_at hl 0 rfl) ?_
              refine lv_sipush (v := nI 128) X.1 X.2.1 jd_M_record_231 (by decide) ?_
              refine kn_cge X.1 X.2.1 jd_M_record_234 (tgt := 270) (by decide) (by omega) (fun h234 => ?_) (fun h234 => absurd h234 (by omega))
              refine lv_iload X.1 X.2.1 jd_M_record_270 (lv_at hl 1 rfl) ?_
              exact hQ _ _ _ _ _ _ _ (⟨rfl, rfl, rfl⟩) hP hS jd_M_record_272
            | succ rC ihrC => 
              intro k ls hk hl
              refine lv_iload X.1 X.2.1 jd_M_record_229 (lv_at hl 0 rfl) ?_
              refine lv_sipush (v := nI 128) X.1 X.2.1 jd_M_record_231 (by decide) ?_
              refine kn_cge X.1 X.2.1 jd_M_record_234 (tgt := 270) (by decide) (by omega) (fun h234 => absurd h234 (by omega)) (fun h234 => ?_)
              refine lv_aload_n X.1 X.2.1 jd_M_record_237 rfl (lv_at hl 2 rfl) ?_
              refine jg_M_7_33 X hP jd_M_record_238 ?_
              refine lv_sipush (v := nI 128) X.1 X.2.1 jd_M_record_241 (by decide) ?_
              refine lv_iload_n X.1 X.2.1 jd_M_record_244 rfl (lv_at hl 3 rfl) ?_
              refine kn_imul X.1 X.2.1 jd_M_record_245 ?_
              refine kn_to (y := 128) (by omega) ?_
              refine lv_iload X.1 X.2.1 jd_M_record_246 (lv_at hl 0 rfl) ?_
              refine kn_iadd X.1 X.2.1 jd_M_record_248 ?_
              refine j_zald X hP 34 (128 + k) (by decide) (show (128 + k) < 256 from by omega) (by decide) jd_M_record_249 ?_
              refine kn_to (y := (nr1 (ku n 33 0 0) f b v z k0) 34 (128 + k)) (rfl) ?_
              refine kn_eq0 X.1 X.2.1 jd_M_record_250 (tgt := 260) (by decide) (NB_nr1 (NB_ku hB (by decide)) k0 _ _) (fun h250 => ?_) (fun h250 => ?_)
              · skip
                refine lv_iload X.1 X.2.1 jd_M_record_260 (lv_at hl 1 rfl) ?_
                refine lv_istore X.1 X.2.1 jd_M_record_262 hl (by decide) rfl (fun ls hl => ?_)
                have hl : lv_has ls 10 [(8, .int (nI (ctF (fun i => (nr1 (ku n 33 0 0) f b v z k0) 34 (128 + i)) k))), (9, .int (nI k)), (0, .ref (a 33)), (1, .int (nI 1))] := hl
                refine lv_iinc (k := 1) (v := nI (k + 1)) X.1 X.2.1 jd_M_record_264 hl rfl (kn_inc _) (by decide) rfl (fun ls hl => ?_)
                have hl : lv_has ls 10 [(9, .int (nI (k + 1))), (8, .int (nI (ctF (fun i => (nr1 (ku n 33 0 0) f b v z k0) 34 (128 + i)) k))), (0, .ref (a 33)), (1, .int (nI 1))] := hl
                refine lv_goto X.1 X.2.1 jd_M_record_267 (tgt := 229) (by decide) ?_
                have hl : lv_has ls 10 [(9, .int (nI (k + 1))), (8, .int (nI (ctF (fun i => (nr1 (ku n 33 0 0) f b v z k0) 34 (128 + i)) (k + 1)))), (0, .ref (a 33)), (1, .int (nI 1))] := by first | exact lv_sub hl [0, 1, 2, 3] rfl | (simp only [ctF]; first | (rw [if_pos (by first | exact h250 | omega)]; exact lv_sub hl [0, 1, 2, 3] rfl) | (rw [if_neg (by first | exact h250 | omega)]; exact lv_sub hl [0, 1, 2, 3] rfl))
                exact ihrC (k + 1) ls (by omega) hl
              · skip
                refine lv_iload X.1 X.2.1 jd_M_record_253 (lv_at hl 1 rfl) ?_
                refine lv_iconst (v := nI 1) X.1 X.2.1 jd_M_record_255 (by decide) ?_
                refine kn_iadd X.1 X.2.1 jd_M_record_256 ?_
                refine lv_goto X.1 X.2.1 jd_M_record_257 (tgt := 262) (by decide) ?_
                refine lv_istore X.1 X.2.1 jd_M_record_262 hl (by decide) rfl (fun ls hl => ?_)
                have hl : lv_has ls 10 [(8, .int (nI ((ctF (fun i => (nr1 (ku n 33 0 0) f b v z k0) 34 (128 + i)) k) + 1))), (9, .int (nI k)), (0, .ref (a 33)), (1, .int (nI 1))] := hl
                refine lv_iinc (k := 1) (v := nI (k + 1)) X.1 X.2.1 jd_M_record_264 hl rfl (kn_inc _) (by decide) rfl (fun ls hl => ?_)
                have hl : lv_has ls 10 [(9, .int (nI (k + 1))), (8, .int (nI ((ctF (fun i => (nr1 (ku n 33 0 0) f b v z k0) 34 (128 + i)) k) + 1))), (0, .ref (a 33)), (1, .int (nI 1))] := hl
                refine lv_goto X.1 X.2.1 jd_M_record_267 (tgt := 229) (by decide) ?_
                have hl : lv_has ls 10 [(9, .int (nI (k + 1))), (8, .int (nI (ctF (fun i => (nr1 (ku n 33 0 0) f b v z k0) 34 (128 + i)) (k + 1)))), (0, .ref (a 33)), (1, .int (nI 1))] := by first | exact lv_sub hl [0, 1, 2, 3] rfl | (simp only [ctF]; first | (rw [if_pos (by first | exact h250 | omega)]; exact lv_sub hl [0, 1, 2, 3] rfl) | (rw [if_neg (by first | exact h250 | omega)]; exact lv_sub hl [0, 1, 2, 3] rfl))
                exact ihrC (k + 1) ls (by omega) hl
          have hl : lv_has ls 10 [(9, .int (nI 0)), (8, .int (nI (ctF (fun i => (nr1 (ku n 33 0 0) f b v z k0) 34 (128 + i)) 0))), (0, .ref (a 33)), (1, .int (nI 1))] := lv_sub hl [0, 1, 2, 3] rfl
          exact loopC (128) 0 ls (by omega) hl
        | succ rN ihrN => 
          intro k H locs ls hk hP hS hl
          refine lv_iload X.1 X.2.1 jd_M_record_121 (lv_at hl 0 rfl) ?_
          refine lv_iload_n X.1 X.2.1 jd_M_record_123 rfl (lv_at hl 4 rfl) ?_
          refine kn_cge X.1 X.2.1 jd_M_record_124 (tgt := 223) (by decide) (by omega) (fun h124 => absurd h124 (by omega)) (fun h124 => ?_)
          refine lv_sipush (v := nI 128) X.1 X.2.1 jd_M_record_127 (by decide) ?_
          refine lv_iload_n X.1 X.2.1 jd_M_record_130 rfl (lv_at hl 2 rfl) ?_
          refine kn_imul X.1 X.2.1 jd_M_record_131 ?_
          refine kn_to (y := 128) (by omega) ?_
          refine lv_iload_n X.1 X.2.1 jd_M_record_132 rfl (lv_at hl 3 rfl) ?_
          refine kn_iadd X.1 X.2.1 jd_M_record_133 ?_
          refine kn_to (y := 128 + f) (by omega) ?_
          refine lv_iload X.1 X.2.1 jd_M_record_134 (lv_at hl 0 rfl) ?_
          refine kn_iadd X.1 X.2.1 jd_M_record_136 ?_
          refine lv_istore X.1 X.2.1 jd_M_record_137 hl (by decide) rfl (fun ls hl => ?_)
          have hl : lv_has ls 10 [(9, .int (nI ((128 + f) + k))), (8, .int (nI k)), (0, .ref (a 33)), (1, .int (nI 1)), (2, .int (nI f)), (3, .int (nI k0)), (4, .int (nI b)), (5, .int (nI v)), (6, .int (nI z))] := hl
          refine lv_aload_n X.1 X.2.1 jd_M_record_139 rfl (lv_at hl 2 rfl) ?_
          refine jg_M_7_33 X hP jd_M_record_140 ?_
          refine lv_iload X.1 X.2.1 jd_M_record_143 (lv_at hl 0 rfl) ?_
          refine lv_iconst (v := nI 1) X.1 X.2.1 jd_M_record_145 (by decide) ?_
          refine j_zast X hap hP hS 34 ((128 + f) + k) 1 (by decide) (show ((128 + f) + k) < 256 from by omega) (by decide) (by decide) jd_M_record_146 (fun H locs hP hS => ?_)
          refine lv_aload_n X.1 X.2.1 jd_M_record_147 rfl (lv_at hl 2 rfl) ?_
          refine jg_M_13_33 X hP jd_M_record_148 ?_
          refine lv_iload X.1 X.2.1 jd_M_record_151 (lv_at hl 0 rfl) ?_
          refine lv_iload X.1 X.2.1 jd_M_record_153 (lv_at hl 6 rfl) ?_
          refine lv_iload X.1 X.2.1 jd_M_record_155 (lv_at hl 1 rfl) ?_
          refine lv_ishr X.1 X.2.1 jd_M_record_157 ?_
          refine lv_iconst (v := nI 1) X.1 X.2.1 jd_M_record_158 (by decide) ?_
          refine lv_iand X.1 X.2.1 jd_M_record_159 ?_
          refine kn_is (y := b / 2 ^ k &&& 1) (kn_sbit (by omega)) ?_
          refine j_ast X hap hP hS 35 ((128 + f) + k) (b / 2 ^ k &&& 1) (by decide) (show ((128 + f) + k) < 256 from by omega) (by decide) jd_M_record_160 (fun H locs hP hS => ?_)
          refine lv_aload_n X.1 X.2.1 jd_M_record_161 rfl (lv_at hl 2 rfl) ?_
          refine jg_M_17_33 X hP jd_M_record_162 ?_
          refine lv_iload X.1 X.2.1 jd_M_record_165 (lv_at hl 0 rfl) ?_
          refine lv_iload X.1 X.2.1 jd_M_record_167 (lv_at hl 7 rfl) ?_
          refine lv_iload X.1 X.2.1 jd_M_record_169 (lv_at hl 1 rfl) ?_
          refine lv_ishr X.1 X.2.1 jd_M_record_171 ?_
          refine lv_iconst (v := nI 1) X.1 X.2.1 jd_M_record_172 (by decide) ?_
          refine lv_iand X.1 X.2.1 jd_M_record_173 ?_
          refine kn_is (y := v / 2 ^ k &&& 1) (kn_sbit (by omega)) ?_
          refine j_ast X hap hP hS 36 ((128 + f) + k) (v / 2 ^ k &&& 1) (by decide) (show ((128 + f) + k) < 256 from by omega) (by decide) jd_M_record_174 (fun H locs hP hS => ?_)
          refine lv_aload_n X.1 X.2.1 jd_M_record_175 rfl (lv_at hl 2 rfl) ?_
          refine jg_M_20_33 X hP jd_M_record_176 ?_
          refine lv_iload_n X.1 X.2.1 jd_M_record_179 rfl (lv_at hl 4 rfl) ?_
          refine lv_iload X.1 X.2.1 jd_M_record_180 (lv_at hl 1 rfl) ?_
          refine kn_iadd X.1 X.2.1 jd_M_record_182 ?_
          refine lv_iload_n X.1 X.2.1 jd_M_record_183 rfl (lv_at hl 3 rfl) ?_
          refine lv_iconst (v := nI 1) X.1 X.2.1 jd_M_record_184 (by decide) ?_
          refine kn_cne X.1 X.2.1 jd_M_record_185 (tgt := 207) (by decide) (by omega) (fun h185 => absurd h185 (by omega)) (fun h185 => ?_)
          refine lv_iload X.1 X.2.1 jd_M_record_188 (lv_at hl 8 rfl) ?_
          refine lv_iload X.1 X.2.1 jd_M_record_190 (lv_at hl 1 rfl) ?_
          refine lv_ishr X.1 X.2.1 jd_M_record_192 ?_
          refine lv_iconst (v := nI 1) X.1 X.2.1 jd_M_record_193 (by decide) ?_
          refine lv_iand X.1 X.2.1 jd_M_record_194 ?_
          refine kn_is (y := z / 2 ^ k &&& 1) (kn_sbit (by omega)) ?_
          refine lv_iconst (v := nI 1) X.1 X.2.1 jd_M_record_195 (by decide) ?_
          refine kn_cne X.1 X.2.1 jd_M_record_196 (tgt := 203) (by decide) (⟨by have := Nat.and_le_right (n := z / 2 ^ k) (m := 1); omega, by decide⟩) (fun h196 => ?_) (fun h196 => ?_)
          · skip
            refine lv_iconst (v := nI 0) X.1 X.2.1 jd_M_record_203 (by decide) ?_
            refine lv_goto X.1 X.2.1 jd_M_record_204 (tgt := 216) (by decide) ?_
            refine j_zast X hap hP hS 37 (f + k) 0 (by decide) (show (f + k) < 128 from by omega) (by decide) (by decide) jd_M_record_216 (fun H locs hP hS => ?_)
            refine lv_iinc (k := 1) (v := nI (k + 1)) X.1 X.2.1 jd_M_record_217 hl rfl (kn_inc _) (by decide) rfl (fun ls hl => ?_)
            have hl : lv_has ls 10 [(8, .int (nI (k + 1))), (9, .int (nI ((128 + f) + k))), (0, .ref (a 33)), (1, .int (nI 1)), (2, .int (nI f)), (3, .int (nI k0)), (4, .int (nI b)), (5, .int (nI v)), (6, .int (nI z))] := hl
            refine lv_goto X.1 X.2.1 jd_M_record_220 (tgt := 121) (by decide) ?_
            have hP : va_P D jCl (jW d a (nr1 (ku n 33 0 0) f b v z (k + 1)) g) H := by first | exact hP | (simp only [nr1]; first | (rw [if_pos (by first | exact h196 | omega)]; exact hP) | (rw [if_neg (by first | exact h196 | omega)]; exact hP))
            have hl : lv_has ls 10 [(8, .int (nI (k + 1))), (0, .ref (a 33)), (1, .int (nI 1)), (2, .int (nI f)), (3, .int (nI k0)), (4, .int (nI b)), (5, .int (nI v)), (6, .int (nI z))] := by first | exact lv_sub hl [0, 2, 3, 4, 5, 6, 7, 8] rfl | (simp only [nr1]; first | (rw [if_pos (by first | exact h196 | omega)]; exact lv_sub hl [0, 2, 3, 4, 5, 6, 7, 8] rfl) | (rw [if_neg (by first | exact h196 | omega)]; exact lv_sub hl [0, 2, 3, 4, 5, 6, 7, 8] rfl))
            exact ihrN (k + 1) H locs ls (by omega) hP hS hl
          · skip
            refine lv_iconst (v := nI 1) X.1 X.2.1 jd_M_record_199 (by decide) ?_
            refine lv_goto X.1 X.2.1 jd_M_record_200 (tgt := 216) (by decide) ?_
            refine j_zast X hap hP hS 37 (f + k) 1 (by decide) (show (f + k) < 128 from by omega) (by decide) (by decide) jd_M_record_216 (fun H locs hP hS => ?_)
            refine lv_iinc (k := 1) (v := nI (k + 1)) X.1 X.2.1 jd_M_record_217 hl rfl (kn_inc _) (by decide) rfl (fun ls hl => ?_)
            have hl : lv_has ls 10 [(8, .int (nI (k + 1))), (9, .int (nI ((128 + f) + k))), (0, .ref (a 33)), (1, .int (nI 1)), (2, .int (nI f)), (3, .int (nI k0)), (4, .int (nI b)), (5, .int (nI v)), (6, .int (nI z))] := hl
            refine lv_goto X.1 X.2.1 jd_M_record_220 (tgt := 121) (by decide) ?_
            have hP : va_P D jCl (jW d a (nr1 (ku n 33 0 0) f b v z (k + 1)) g) H := by first | exact hP | (simp only [nr1]; first | (rw [if_pos (by first | exact h196 | omega)]; exact hP) | (rw [if_neg (by first | exact h196 | omega)]; exact hP))
            have hl : lv_has ls 10 [(8, .int (nI (k + 1))), (0, .ref (a 33)), (1, .int (nI 1)), (2, .int (nI f)), (3, .int (nI k0)), (4, .int (nI b)), (5, .int (nI v)), (6, .int (nI z))] := by first | exact lv_sub hl [0, 2, 3, 4, 5, 6, 7, 8] rfl | (simp only [nr1]; first | (rw [if_pos (by first | exact h196 | omega)]; exact lv_sub hl [0, 2, 3, 4, 5, 6, 7, 8] rfl) | (rw [if_neg (by first | exact h196 | omega)]; exact lv_sub hl [0, 2, 3, 4, 5, 6, 7, 8] rfl))
            exact ihrN (k + 1) H locs ls (by omega) hP hS hl
      have hl : lv_has ls 10 [(8, .int (nI 0)), (0, .ref (a 33)), (1, .int (nI 1)), (2, .int (nI f)), (3, .int (nI k0)), (4, .int (nI b)), (5, .int (nI v)), (6, .int (nI z))] := lv_sub hl [0, 2, 3, 4, 5, 6, 7, 8] rfl
      exact loopN (k0) 0 H locs ls (by omega) hP hS hl
    | succ r ihr => 
      intro k ls hk hl
      refine lv_iload X.1 X.2.1 jd_M_record_65 (lv_at hl 0 rfl) ?_
      refine lv_iload_n X.1 X.2.1 jd_M_record_67 rfl (lv_at hl 5 rfl) ?_
      refine kn_cge X.1 X.2.1 jd_M_record_68 (tgt := 107) (by decide) (by omega) (fun h68 => absurd h68 (by omega)) (fun h68 => ?_)
      refine lv_iload X.1 X.2.1 jd_M_record_71 (lv_at hl 1 rfl) ?_
      refine kn_eq0 X.1 X.2.1 jd_M_record_73 (tgt := 98) (by decide) (by have := frF_lt (n 34) (128 + f) k; omega) (fun h73 => ?_) (fun h73 => ?_)
      · skip
        refine lv_iconst (v := nI 0) X.1 X.2.1 jd_M_record_98 (by decide) ?_
        refine lv_istore X.1 X.2.1 jd_M_record_99 hl (by decide) rfl (fun ls hl => ?_)
        have hl : lv_has ls 10 [(7, .int (nI 0)), (8, .int (nI k)), (0, .ref (a 33)), (1, .int (nI 1)), (2, .int (nI f)), (3, .int (nI k0)), (4, .int (nI b)), (5, .int (nI v)), (6, .int (nI z))] := hl
        refine lv_iinc (k := 1) (v := nI (k + 1)) X.1 X.2.1 jd_M_record_101 hl rfl (kn_inc _) (by decide) rfl (fun ls hl => ?_)
        have hl : lv_has ls 10 [(8, .int (nI (k + 1))), (7, .int (nI 0)), (0, .ref (a 33)), (1, .int (nI 1)), (2, .int (nI f)), (3, .int (nI k0)), (4, .int (nI b)), (5, .int (nI v)), (6, .int (nI z))] := hl
        refine lv_goto X.1 X.2.1 jd_M_record_104 (tgt := 65) (by decide) ?_
        have hl : lv_has ls 10 [(8, .int (nI (k + 1))), (7, .int (nI (frF (n 34) (128 + f) (k + 1)))), (0, .ref (a 33)), (1, .int (nI 1)), (2, .int (nI f)), (3, .int (nI k0)), (4, .int (nI b)), (5, .int (nI v)), (6, .int (nI z))] := by first | exact lv_sub hl [0, 1, 2, 3, 4, 5, 6, 7, 8] rfl | (simp only [frF]; first | (rw [if_pos (by first | exact h73 | omega)]; rw [if_pos (by first | exact h91 | omega)]; exact lv_sub hl [0, 1, 2, 3, 4, 5, 6, 7, 8] rfl) | (rw [if_pos (by first | exact h73 | omega)]; rw [if_neg (by first | exact h91 | omega)]; exact lv_sub hl [0, 1, 2, 3, 4, 5, 6, 7, 8] rfl) | (rw [if_neg (by first | exact h73 | omega)]; rw [if_pos (by first | exact h91 | omega)]; exact lv_sub hl [0, 1, 2, 3, 4, 5, 6, 7, 8] rfl) | (rw [if_neg (by first | exact h73 | omega)]; rw [if_neg (by first | exact h91 | omega)]; exact lv_sub hl [0, 1, 2, 3, 4, 5, 6, 7, 8] rfl) | (rw [if_pos (by first | exact h73 | omega)]; exact lv_sub hl [0, 1, 2, 3, 4, 5, 6, 7, 8] rfl) | (rw [if_neg (by first | exact h73 | omega)]; exact lv_sub hl [0, 1, 2, 3, 4, 5, 6, 7, 8] rfl))
        exact ihr (k + 1) ls (by omega) hl
      · skip
        refine lv_aload_n X.1 X.2.1 jd_M_record_76 rfl (lv_at hl 2 rfl) ?_
        refine jg_M_7_33 X hP jd_M_record_77 ?_
        refine lv_sipush (v := nI 128) X.1 X.2.1 jd_M_record_80 (by decide) ?_
        refine lv_iload_n X.1 X.2.1 jd_M_record_83 rfl (lv_at hl 3 rfl) ?_
        refine kn_imul X.1 X.2.1 jd_M_record_84 ?_
        refine kn_to (y := 128) (by omega) ?_
        refine lv_iload_n X.1 X.2.1 jd_M_record_85 rfl (lv_at hl 4 rfl) ?_
        refine kn_iadd X.1 X.2.1 jd_M_record_86 ?_
        refine kn_to (y := 128 + f) (by omega) ?_
        refine lv_iload X.1 X.2.1 jd_M_record_87 (lv_at hl 0 rfl) ?_
        refine kn_iadd X.1 X.2.1 jd_M_record_89 ?_
        refine j_zald X hP 34 ((128 + f) + k) (by decide) (show ((128 + f) + k) < 256 from by omega) (by decide) jd_M_record_90 ?_
        refine kn_to (y := n 34 (128 + f + k)) (rfl) ?_
        refine kn_ne0 X.1 X.2.1 jd_M_record_91 (tgt := 98) (by decide) (hB _ _) (fun h91 => ?_) (fun h91 => ?_)
        · skip
          refine lv_iconst (v := nI 0) X.1 X.2.1 jd_M_record_98 (by decide) ?_
          refine lv_istore X.1 X.2.1 jd_M_record_99 hl (by decide) rfl (fun ls hl => ?_)
          have hl : lv_has ls 10 [(7, .int (nI 0)), (8, .int (nI k)), (0, .ref (a 33)), (1, .int (nI 1)), (2, .int (nI f)), (3, .int (nI k0)), (4, .int (nI b)), (5, .int (nI v)), (6, .int (nI z))] := hl
          refine lv_iinc (k := 1) (v := nI (k + 1)) X.1 X.2.1 jd_M_record_101 hl rfl (kn_inc _) (by decide) rfl (fun ls hl => ?_)
          have hl : lv_has ls 10 [(8, .int (nI (k + 1))), (7, .int (nI 0)), (0, .ref (a 33)), (1, .int (nI 1)), (2, .int (nI f)), (3, .int (nI k0)), (4, .int (nI b)), (5, .int (nI v)), (6, .int (nI z))] := hl
          refine lv_goto X.1 X.2.1 jd_M_record_104 (tgt := 65) (by decide) ?_
          have hl : lv_has ls 10 [(8, .int (nI (k + 1))), (7, .int (nI (frF (n 34) (128 + f) (k + 1)))), (0, .ref (a 33)), (1, .int (nI 1)), (2, .int (nI f)), (3, .int (nI k0)), (4, .int (nI b)), (5, .int (nI v)), (6, .int (nI z))] := by first | exact lv_sub hl [0, 1, 2, 3, 4, 5, 6, 7, 8] rfl | (simp only [frF]; first | (rw [if_pos (by first | exact h73 | omega)]; rw [if_pos (by first | exact h91 | omega)]; exact lv_sub hl [0, 1, 2, 3, 4, 5, 6, 7, 8] rfl) | (rw [if_pos (by first | exact h73 | omega)]; rw [if_neg (by first | exact h91 | omega)]; exact lv_sub hl [0, 1, 2, 3, 4, 5, 6, 7, 8] rfl) | (rw [if_neg (by first | exact h73 | omega)]; rw [if_pos (by first | exact h91 | omega)]; exact lv_sub hl [0, 1, 2, 3, 4, 5, 6, 7, 8] rfl) | (rw [if_neg (by first | exact h73 | omega)]; rw [if_neg (by first | exact h91 | omega)]; exact lv_sub hl [0, 1, 2, 3, 4, 5, 6, 7, 8] rfl) | (rw [if_pos (by first | exact h73 | omega)]; exact lv_sub hl [0, 1, 2, 3, 4, 5, 6, 7, 8] rfl) | (rw [if_neg (by first | exact h73 | omega)]; exact lv_sub hl [0, 1, 2, 3, 4, 5, 6, 7, 8] rfl))
          exact ihr (k + 1) ls (by omega) hl
        · skip
          refine lv_iconst (v := nI 1) X.1 X.2.1 jd_M_record_94 (by decide) ?_
          refine lv_goto X.1 X.2.1 jd_M_record_95 (tgt := 99) (by decide) ?_
          refine lv_istore X.1 X.2.1 jd_M_record_99 hl (by decide) rfl (fun ls hl => ?_)
          have hl : lv_has ls 10 [(7, .int (nI 1)), (8, .int (nI k)), (0, .ref (a 33)), (1, .int (nI 1)), (2, .int (nI f)), (3, .int (nI k0)), (4, .int (nI b)), (5, .int (nI v)), (6, .int (nI z))] := hl
          refine lv_iinc (k := 1) (v := nI (k + 1)) X.1 X.2.1 jd_M_record_101 hl rfl (kn_inc _) (by decide) rfl (fun ls hl => ?_)
          have hl : lv_has ls 10 [(8, .int (nI (k + 1))), (7, .int (nI 1)), (0, .ref (a 33)), (1, .int (nI 1)), (2, .int (nI f)), (3, .int (nI k0)), (4, .int (nI b)), (5, .int (nI v)), (6, .int (nI z))] := hl
          refine lv_goto X.1 X.2.1 jd_M_record_104 (tgt := 65) (by decide) ?_
          have hl : lv_has ls 10 [(8, .int (nI (k + 1))), (7, .int (nI (frF (n 34) (128 + f) (k + 1)))), (0, .ref (a 33)), (1, .int (nI 1)), (2, .int (nI f)), (3, .int (nI k0)), (4, .int (nI b)), (5, .int (nI v)), (6, .int (nI z))] := by first | exact lv_sub hl [0, 1, 2, 3, 4, 5, 6, 7, 8] rfl | (simp only [frF]; first | (rw [if_pos (by first | exact h73 | omega)]; rw [if_pos (by first | exact h91 | omega)]; exact lv_sub hl [0, 1, 2, 3, 4, 5, 6, 7, 8] rfl) | (rw [if_pos (by first | exact h73 | omega)]; rw [if_neg (by first | exact h91 | omega)]; exact lv_sub hl [0, 1, 2, 3, 4, 5, 6, 7, 8] rfl) | (rw [if_neg (by first | exact h73 | omega)]; rw [if_pos (by first | exact h91 | omega)]; exact lv_sub hl [0, 1, 2, 3, 4, 5, 6, 7, 8] rfl) | (rw [if_neg (by first | exact h73 | omega)]; rw [if_neg (by first | exact h91 | omega)]; exact lv_sub hl [0, 1, 2, 3, 4, 5, 6, 7, 8] rfl) | (rw [if_pos (by first | exact h73 | omega)]; exact lv_sub hl [0, 1, 2, 3, 4, 5, 6, 7, 8] rfl) | (rw [if_neg (by first | exact h73 | omega)]; exact lv_sub hl [0, 1, 2, 3, 4, 5, 6, 7, 8] rfl))
          exact ihr (k + 1) ls (by omega) hl
  have hl : lv_has ls 10 [(8, .int (nI 0)), (7, .int (nI (frF (n 34) (128 + f) 0))), (0, .ref (a 33)), (1, .int (nI 1)), (2, .int (nI f)), (3, .int (nI k0)), (4, .int (nI b)), (5, .int (nI v)), (6, .int (nI z))] := lv_sub hl [0, 1, 2, 3, 4, 5, 6, 7, 8] rfl
  exact loop65 (k0) 0 ls (by omega) hl

set_option maxHeartbeats 4000000 in
theorem c_M_sift_1 (l : Launch) (d : Nat → Nat) (D : va_G) (a : Nat → Nat) (n : Nat → Nat → Nat) (g : Nat → Nat) (hap : ∀ i j : Nat, i < 52 → j < 52 → a i = a j → i = j) (hB : NB n) (hs : ¬ n 33 1 = 0) : jEff l d D a n g jy_M_sift jb_M_sift 2 (some .int) { frames := 0, cells := 0, slots := 0, locals := 0 } [.ref (a 33)] (fun v9 n2 g2 => some (.int (nI 0)) = v9 ∧ ku n 33 0 1 = n2 ∧ g = g2) := by
  refine je_I (by decide) (Nat.le_of_ble_eq_true rfl) ?_
  intro p e s m A below meth c ls Q X hP hS hl hQ
  have hl : lv_has ls 2 [(0, .ref (a 33))] := hl
  refine lv_aload_n X.1 X.2.1 jd_M_sift_0 rfl (lv_at hl 0 rfl) ?_
  refine lv_aload_n X.1 X.2.1 jd_M_sift_1 rfl (lv_at hl 0 rfl) ?_
  refine jg_M_77_33 X hP jd_M_sift_2 ?_
  refine kn_eq0 X.1 X.2.1 jd_M_sift_5 (tgt := 12) (by decide) (hB _ _) (fun h5 => absurd h5 (hs)) (fun h5 => ?_)
  refine lv_iconst (v := nI 1) X.1 X.2.1 jd_M_sift_8 (by decide) ?_
  refine lv_goto X.1 X.2.1 jd_M_sift_9 (tgt := 13) (by decide) ?_
  refine jp_M_66_33 X hap hP hS jd_M_sift_13 (fun H locs hP hS => ?_)
  refine lv_aload_n X.1 X.2.1 jd_M_sift_16 rfl (lv_at hl 0 rfl) ?_
  refine jg_M_66_33 X hP jd_M_sift_17 ?_
  refine kn_to (y := 1) (rfl) ?_
  refine kn_le0 X.1 X.2.1 jd_M_sift_20 (tgt := 25) (by decide) (by omega) (fun h20 => absurd h20 (by omega)) (fun h20 => ?_)
  refine lv_iconst (v := nI 0) X.1 X.2.1 jd_M_sift_23 (by decide) ?_
  exact hQ _ _ _ _ _ _ _ (⟨rfl, rfl, rfl⟩) hP hS jd_M_sift_24

set_option maxHeartbeats 4000000 in
theorem c_M_sift (l : Launch) (d : Nat → Nat) (D : va_G) (a : Nat → Nat) (n : Nat → Nat → Nat) (g : Nat → Nat) (hap : ∀ i j : Nat, i < 52 → j < 52 → a i = a j → i = j) (hB : NB n) (hs : n 33 1 = 0) (hz2 : n 33 2 = 0) : jEff l d D a n g jy_M_sift jb_M_sift 2 (some .int) { frames := 0, cells := 0, slots := 0, locals := 0 } [.ref (a 33)] (fun v9 n2 g2 => some (.int (nI ((siM (ku (ku n 33 0 0) 33 1 1) 128) 33 2))) = v9 ∧ (siM (ku (ku n 33 0 0) 33 1 1) 128) = n2 ∧ g = g2) := by
  have hNB : NB (ku (ku n 33 0 0) 33 1 1) := NB_ku (NB_ku hB (by decide)) (by decide)
  refine je_I (by decide) (Nat.le_of_ble_eq_true rfl) ?_
  intro p e s m A below meth c ls Q X hP hS hl hQ
  have hl : lv_has ls 2 [(0, .ref (a 33))] := hl
  refine lv_aload_n X.1 X.2.1 jd_M_sift_0 rfl (lv_at hl 0 rfl) ?_
  refine lv_aload_n X.1 X.2.1 jd_M_sift_1 rfl (lv_at hl 0 rfl) ?_
  refine jg_M_77_33 X hP jd_M_sift_2 ?_
  refine kn_eq0 X.1 X.2.1 jd_M_sift_5 (tgt := 12) (by decide) (hB _ _) (fun h5 => ?_) (fun h5 => absurd h5 (fun q => q hs))
  refine lv_iconst (v := nI 0) X.1 X.2.1 jd_M_sift_12 (by decide) ?_
  refine jp_M_66_33 X hap hP hS jd_M_sift_13 (fun H locs hP hS => ?_)
  refine lv_aload_n X.1 X.2.1 jd_M_sift_16 rfl (lv_at hl 0 rfl) ?_
  refine jg_M_66_33 X hP jd_M_sift_17 ?_
  refine kn_to (y := 0) (rfl) ?_
  refine kn_le0 X.1 X.2.1 jd_M_sift_20 (tgt := 25) (by decide) (by omega) (fun h20 => ?_) (fun h20 => absurd h20 (by omega))
  refine lv_aload_n X.1 X.2.1 jd_M_sift_25 rfl (lv_at hl 0 rfl) ?_
  refine lv_iconst (v := nI 1) X.1 X.2.1 jd_M_sift_26 (by decide) ?_
  refine jp_M_77_33 X hap hP hS (by omega) jd_M_sift_27 (fun H locs hP hS => ?_)
  refine lv_iconst (v := nI 0) X.1 X.2.1 jd_M_sift_30 (by decide) ?_
  refine lv_istore_n X.1 X.2.1 jd_M_sift_31 rfl hl (by decide) rfl (fun ls hl => ?_)
  have hl : lv_has ls 2 [(1, .int (nI 0)), (0, .ref (a 33))] := hl
  have loop32 : ∀ (r k : Nat) (H : Heap) (locs : List Loc) (ls : Array Slot), k + r = 128 → va_P D jCl (jW d a (siM (ku (ku n 33 0 0) 33 1 1) k) g) H → va_S (jAa a s.heap.size) s.heap H locs → lv_has ls 2 [(1, .int (nI k)), (0, .ref (a 33))] → W p l e { frames := 0, cells := 0, slots := 0, locals := 0 } s m A below meth c H locs 0 0 Q (F0 m 32 ls []) := by
    intro r
    induction r with
    | zero => 
      intro k H locs ls hk hP hS hl
      obtain rfl : 128 = k := by omega
      refine lv_iload_n X.1 X.2.1 jd_M_sift_32 rfl (lv_at hl 0 rfl) ?_
      refine lv_sipush (v := nI 128) X.1 X.2.1 jd_M_sift_33 (by decide) ?_
      refine kn_cge X.1 X.2.1 jd_M_sift_36 (tgt := 143) (by decide) (by omega) (fun h36 => ?_) (fun h36 => absurd h36 (by omega))
      refine lv_aload_n X.1 X.2.1 jd_M_sift_143 rfl (lv_at hl 1 rfl) ?_
      refine jg_M_85_33 X hP jd_M_sift_144 ?_
      exact hQ _ _ _ _ _ _ _ (⟨rfl, rfl, rfl⟩) hP hS jd_M_sift_147
    | succ r ihr => 
      intro k H locs ls hk hP hS hl
      refine lv_iload_n X.1 X.2.1 jd_M_sift_32 rfl (lv_at hl 0 rfl) ?_
      refine lv_sipush (v := nI 128) X.1 X.2.1 jd_M_sift_33 (by decide) ?_
      refine kn_cge X.1 X.2.1 jd_M_sift_36 (tgt := 143) (by decide) (by omega) (fun h36 => absurd h36 (by omega)) (fun h36 => ?_)
      have hb9 := NB_siM hNB (by show n 33 2 ≤ 200; omega) k (by omega)
      have hle : (siM (ku (ku n 33 0 0) 33 1 1) k) 33 2 ≤ k := by have q := siM_le (ku (ku n 33 0 0) 33 1 1) k; have q2 : (ku (ku n 33 0 0) 33 1 1) 33 2 = 0 := hz2; omega
      refine lv_aload_n X.1 X.2.1 jd_M_sift_39 rfl (lv_at hl 1 rfl) ?_
      refine jg_M_7_33 X hP jd_M_sift_40 ?_
      refine lv_iload_n X.1 X.2.1 jd_M_sift_43 rfl (lv_at hl 0 rfl) ?_
      refine j_zald X hP 34 k (by decide) (show k < 256 from by omega) (by decide) jd_M_sift_44 ?_
      refine kn_eq0 X.1 X.2.1 jd_M_sift_45 (tgt := 137) (by decide) (hb9 _ _) (fun h45 => ?_) (fun h45 => ?_)
      · skip
        refine lv_iinc (k := 0) (v := nI (k + 1)) X.1 X.2.1 jd_M_sift_137 hl rfl (kn_inc _) (by decide) rfl (fun ls hl => ?_)
        have hl : lv_has ls 2 [(1, .int (nI (k + 1))), (0, .ref (a 33))] := hl
        refine lv_goto X.1 X.2.1 jd_M_sift_140 (tgt := 32) (by decide) ?_
        have hP : va_P D jCl (jW d a (siM (ku (ku n 33 0 0) 33 1 1) (k + 1)) g) H := by first | exact hP | (simp only [siM]; first | (rw [if_pos (by first | exact h45 | omega)]; rw [if_pos (by first | exact h58 | omega)]; rw [if_pos (by first | exact h67 | omega)]; rw [if_pos (by first | exact h86 | omega)]; exact hP) | (rw [if_pos (by first | exact h45 | omega)]; rw [if_pos (by first | exact h58 | omega)]; rw [if_pos (by first | exact h67 | omega)]; rw [if_neg (by first | exact h86 | omega)]; exact hP) | (rw [if_pos (by first | exact h45 | omega)]; rw [if_pos (by first | exact h58 | omega)]; rw [if_neg (by first | exact h67 | omega)]; rw [if_pos (by first | exact h86 | omega)]; exact hP) | (rw [if_pos (by first | exact h45 | omega)]; rw [if_pos (by first | exact h58 | omega)]; rw [if_neg (by first | exact h67 | omega)]; rw [if_neg (by first | exact h86 | omega)]; exact hP) | (rw [if_pos (by first | exact h45 | omega)]; rw [if_neg (by first | exact h58 | omega)]; rw [if_pos (by first | exact h67 | omega)]; rw [if_pos (by first | exact h86 | omega)]; exact hP) | (rw [if_pos (by first | exact h45 | omega)]; rw [if_neg (by first | exact h58 | omega)]; rw [if_pos (by first | exact h67 | omega)]; rw [if_neg (by first | exact h86 | omega)]; exact hP) | (rw [if_pos (by first | exact h45 | omega)]; rw [if_neg (by first | exact h58 | omega)]; rw [if_neg (by first | exact h67 | omega)]; rw [if_pos (by first | exact h86 | omega)]; exact hP) | (rw [if_pos (by first | exact h45 | omega)]; rw [if_neg (by first | exact h58 | omega)]; rw [if_neg (by first | exact h67 | omega)]; rw [if_neg (by first | exact h86 | omega)]; exact hP) | (rw [if_neg (by first | exact h45 | omega)]; rw [if_pos (by first | exact h58 | omega)]; rw [if_pos (by first | exact h67 | omega)]; rw [if_pos (by first | exact h86 | omega)]; exact hP) | (rw [if_neg (by first | exact h45 | omega)]; rw [if_pos (by first | exact h58 | omega)]; rw [if_pos (by first | exact h67 | omega)]; rw [if_neg (by first | exact h86 | omega)]; exact hP) | (rw [if_neg (by first | exact h45 | omega)]; rw [if_pos (by first | exact h58 | omega)]; rw [if_neg (by first | exact h67 | omega)]; rw [if_pos (by first | exact h86 | omega)]; exact hP) | (rw [if_neg (by first | exact h45 | omega)]; rw [if_pos (by first | exact h58 | omega)]; rw [if_neg (by first | exact h67 | omega)]; rw [if_neg (by first | exact h86 | omega)]; exact hP) | (rw [if_neg (by first | exact h45 | omega)]; rw [if_neg (by first | exact h58 | omega)]; rw [if_pos (by first | exact h67 | omega)]; rw [if_pos (by first | exact h86 | omega)]; exact hP) | (rw [if_neg (by first | exact h45 | omega)]; rw [if_neg (by first | exact h58 | omega)]; rw [if_pos (by first | exact h67 | omega)]; rw [if_neg (by first | exact h86 | omega)]; exact hP) | (rw [if_neg (by first | exact h45 | omega)]; rw [if_neg (by first | exact h58 | omega)]; rw [if_neg (by first | exact h67 | omega)]; rw [if_pos (by first | exact h86 | omega)]; exact hP) | (rw [if_neg (by first | exact h45 | omega)]; rw [if_neg (by first | exact h58 | omega)]; rw [if_neg (by first | exact h67 | omega)]; rw [if_neg (by first | exact h86 | omega)]; exact hP) | (rw [if_pos (by first | exact h45 | omega)]; rw [if_pos (by first | exact h58 | omega)]; rw [if_pos (by first | exact h67 | omega)]; exact hP) | (rw [if_pos (by first | exact h45 | omega)]; rw [if_pos (by first | exact h58 | omega)]; rw [if_neg (by first | exact h67 | omega)]; exact hP) | (rw [if_pos (by first | exact h45 | omega)]; rw [if_neg (by first | exact h58 | omega)]; rw [if_pos (by first | exact h67 | omega)]; exact hP) | (rw [if_pos (by first | exact h45 | omega)]; rw [if_neg (by first | exact h58 | omega)]; rw [if_neg (by first | exact h67 | omega)]; exact hP) | (rw [if_neg (by first | exact h45 | omega)]; rw [if_pos (by first | exact h58 | omega)]; rw [if_pos (by first | exact h67 | omega)]; exact hP) | (rw [if_neg (by first | exact h45 | omega)]; rw [if_pos (by first | exact h58 | omega)]; rw [if_neg (by first | exact h67 | omega)]; exact hP) | (rw [if_neg (by first | exact h45 | omega)]; rw [if_neg (by first | exact h58 | omega)]; rw [if_pos (by first | exact h67 | omega)]; exact hP) | (rw [if_neg (by first | exact h45 | omega)]; rw [if_neg (by first | exact h58 | omega)]; rw [if_neg (by first | exact h67 | omega)]; exact hP) | (rw [if_pos (by first | exact h45 | omega)]; rw [if_pos (by first | exact h58 | omega)]; exact hP) | (rw [if_pos (by first | exact h45 | omega)]; rw [if_neg (by first | exact h58 | omega)]; exact hP) | (rw [if_neg (by first | exact h45 | omega)]; rw [if_pos (by first | exact h58 | omega)]; exact hP) | (rw [if_neg (by first | exact h45 | omega)]; rw [if_neg (by first | exact h58 | omega)]; exact hP) | (rw [if_pos (by first | exact h45 | omega)]; exact hP) | (rw [if_neg (by first | exact h45 | omega)]; exact hP))
        have hl : lv_has ls 2 [(1, .int (nI (k + 1))), (0, .ref (a 33))] := by first | exact lv_sub hl [0, 1] rfl | (simp only [siM]; first | (rw [if_pos (by first | exact h45 | omega)]; rw [if_pos (by first | exact h58 | omega)]; rw [if_pos (by first | exact h67 | omega)]; rw [if_pos (by first | exact h86 | omega)]; exact lv_sub hl [0, 1] rfl) | (rw [if_pos (by first | exact h45 | omega)]; rw [if_pos (by first | exact h58 | omega)]; rw [if_pos (by first | exact h67 | omega)]; rw [if_neg (by first | exact h86 | omega)]; exact lv_sub hl [0, 1] rfl) | (rw [if_pos (by first | exact h45 | omega)]; rw [if_pos (by first | exact h58 | omega)]; rw [if_neg (by first | exact h67 | omega)]; rw [if_pos (by first | exact h86 | omega)]; exact lv_sub hl [0, 1] rfl) | (rw [if_pos (by first | exact h45 | omega)]; rw [if_pos (by first | exact h58 | omega)]; rw [if_neg (by first | exact h67 | omega)]; rw [if_neg (by first | exact h86 | omega)]; exact lv_sub hl [0, 1] rfl) | (rw [if_pos (by first | exact h45 | omega)]; rw [if_neg (by first | exact h58 | omega)]; rw [if_pos (by first | exact h67 | omega)]; rw [if_pos (by first | exact h86 | omega)]; exact lv_sub hl [0, 1] rfl) | (rw [if_pos (by first | exact h45 | omega)]; rw [if_neg (by first | exact h58 | omega)]; rw [if_pos (by first | exact h67 | omega)]; rw [if_neg (by first | exact h86 | omega)]; exact lv_sub hl [0, 1] rfl) | (rw [if_pos (by first | exact h45 | omega)]; rw [if_neg (by first | exact h58 | omega)]; rw [if_neg (by first | exact h67 | omega)]; rw [if_pos (by first | exact h86 | omega)]; exact lv_sub hl [0, 1] rfl) | (rw [if_pos (by first | exact h45 | omega)]; rw [if_neg (by first | exact h58 | omega)]; rw [if_neg (by first | exact h67 | omega)]; rw [if_neg (by first | exact h86 | omega)]; exact lv_sub hl [0, 1] rfl) | (rw [if_neg (by first | exact h45 | omega)]; rw [if_pos (by first | exact h58 | omega)]; rw [if_pos (by first | exact h67 | omega)]; rw [if_pos (by first | exact h86 | omega)]; exact lv_sub hl [0, 1] rfl) | (rw [if_neg (by first | exact h45 | omega)]; rw [if_pos (by first | exact h58 | omega)]; rw [if_pos (by first | exact h67 | omega)]; rw [if_neg (by first | exact h86 | omega)]; exact lv_sub hl [0, 1] rfl) | (rw [if_neg (by first | exact h45 | omega)]; rw [if_pos (by first | exact h58 | omega)]; rw [if_neg (by first | exact h67 | omega)]; rw [if_pos (by first | exact h86 | omega)]; exact lv_sub hl [0, 1] rfl) | (rw [if_neg (by first | exact h45 | omega)]; rw [if_pos (by first | exact h58 | omega)]; rw [if_neg (by first | exact h67 | omega)]; rw [if_neg (by first | exact h86 | omega)]; exact lv_sub hl [0, 1] rfl) | (rw [if_neg (by first | exact h45 | omega)]; rw [if_neg (by first | exact h58 | omega)]; rw [if_pos (by first | exact h67 | omega)]; rw [if_pos (by first | exact h86 | omega)]; exact lv_sub hl [0, 1] rfl) | (rw [if_neg (by first | exact h45 | omega)]; rw [if_neg (by first | exact h58 | omega)]; rw [if_pos (by first | exact h67 | omega)]; rw [if_neg (by first | exact h86 | omega)]; exact lv_sub hl [0, 1] rfl) | (rw [if_neg (by first | exact h45 | omega)]; rw [if_neg (by first | exact h58 | omega)]; rw [if_neg (by first | exact h67 | omega)]; rw [if_pos (by first | exact h86 | omega)]; exact lv_sub hl [0, 1] rfl) | (rw [if_neg (by first | exact h45 | omega)]; rw [if_neg (by first | exact h58 | omega)]; rw [if_neg (by first | exact h67 | omega)]; rw [if_neg (by first | exact h86 | omega)]; exact lv_sub hl [0, 1] rfl) | (rw [if_pos (by first | exact h45 | omega)]; rw [if_pos (by first | exact h58 | omega)]; rw [if_pos (by first | exact h67 | omega)]; exact lv_sub hl [0, 1] rfl) | (rw [if_pos (by first | exact h45 | omega)]; rw [if_pos (by first | exact h58 | omega)]; rw [if_neg (by first | exact h67 | omega)]; exact lv_sub hl [0, 1] rfl) | (rw [if_pos (by first | exact h45 | omega)]; rw [if_neg (by first | exact h58 | omega)]; rw [if_pos (by first | exact h67 | omega)]; exact lv_sub hl [0, 1] rfl) | (rw [if_pos (by first | exact h45 | omega)]; rw [if_neg (by first | exact h58 | omega)]; rw [if_neg (by first | exact h67 | omega)]; exact lv_sub hl [0, 1] rfl) | (rw [if_neg (by first | exact h45 | omega)]; rw [if_pos (by first | exact h58 | omega)]; rw [if_pos (by first | exact h67 | omega)]; exact lv_sub hl [0, 1] rfl) | (rw [if_neg (by first | exact h45 | omega)]; rw [if_pos (by first | exact h58 | omega)]; rw [if_neg (by first | exact h67 | omega)]; exact lv_sub hl [0, 1] rfl) | (rw [if_neg (by first | exact h45 | omega)]; rw [if_neg (by first | exact h58 | omega)]; rw [if_pos (by first | exact h67 | omega)]; exact lv_sub hl [0, 1] rfl) | (rw [if_neg (by first | exact h45 | omega)]; rw [if_neg (by first | exact h58 | omega)]; rw [if_neg (by first | exact h67 | omega)]; exact lv_sub hl [0, 1] rfl) | (rw [if_pos (by first | exact h45 | omega)]; rw [if_pos (by first | exact h58 | omega)]; exact lv_sub hl [0, 1] rfl) | (rw [if_pos (by first | exact h45 | omega)]; rw [if_neg (by first | exact h58 | omega)]; exact lv_sub hl [0, 1] rfl) | (rw [if_neg (by first | exact h45 | omega)]; rw [if_pos (by first | exact h58 | omega)]; exact lv_sub hl [0, 1] rfl) | (rw [if_neg (by first | exact h45 | omega)]; rw [if_neg (by first | exact h58 | omega)]; exact lv_sub hl [0, 1] rfl) | (rw [if_pos (by first | exact h45 | omega)]; exact lv_sub hl [0, 1] rfl) | (rw [if_neg (by first | exact h45 | omega)]; exact lv_sub hl [0, 1] rfl))
        exact ihr (k + 1) H locs ls (by omega) hP hS hl
      · skip
        refine lv_aload_n X.1 X.2.1 jd_M_sift_48 rfl (lv_at hl 1 rfl) ?_
        refine jg_M_7_33 X hP jd_M_sift_49 ?_
        refine lv_sipush (v := nI 128) X.1 X.2.1 jd_M_sift_52 (by decide) ?_
        refine lv_iload_n X.1 X.2.1 jd_M_sift_55 rfl (lv_at hl 0 rfl) ?_
        refine kn_iadd X.1 X.2.1 jd_M_sift_56 ?_
        refine j_zald X hP 34 (128 + k) (by decide) (show (128 + k) < 256 from by omega) (by decide) jd_M_sift_57 ?_
        refine kn_eq0 X.1 X.2.1 jd_M_sift_58 (tgt := 137) (by decide) (hb9 _ _) (fun h58 => ?_) (fun h58 => ?_)
        · skip
          refine lv_iinc (k := 0) (v := nI (k + 1)) X.1 X.2.1 jd_M_sift_137 hl rfl (kn_inc _) (by decide) rfl (fun ls hl => ?_)
          have hl : lv_has ls 2 [(1, .int (nI (k + 1))), (0, .ref (a 33))] := hl
          refine lv_goto X.1 X.2.1 jd_M_sift_140 (tgt := 32) (by decide) ?_
          have hP : va_P D jCl (jW d a (siM (ku (ku n 33 0 0) 33 1 1) (k + 1)) g) H := by first | exact hP | (simp only [siM]; first | (rw [if_pos (by first | exact h45 | omega)]; rw [if_pos (by first | exact h58 | omega)]; rw [if_pos (by first | exact h67 | omega)]; rw [if_pos (by first | exact h86 | omega)]; exact hP) | (rw [if_pos (by first | exact h45 | omega)]; rw [if_pos (by first | exact h58 | omega)]; rw [if_pos (by first | exact h67 | omega)]; rw [if_neg (by first | exact h86 | omega)]; exact hP) | (rw [if_pos (by first | exact h45 | omega)]; rw [if_pos (by first | exact h58 | omega)]; rw [if_neg (by first | exact h67 | omega)]; rw [if_pos (by first | exact h86 | omega)]; exact hP) | (rw [if_pos (by first | exact h45 | omega)]; rw [if_pos (by first | exact h58 | omega)]; rw [if_neg (by first | exact h67 | omega)]; rw [if_neg (by first | exact h86 | omega)]; exact hP) | (rw [if_pos (by first | exact h45 | omega)]; rw [if_neg (by first | exact h58 | omega)]; rw [if_pos (by first | exact h67 | omega)]; rw [if_pos (by first | exact h86 | omega)]; exact hP) | (rw [if_pos (by first | exact h45 | omega)]; rw [if_neg (by first | exact h58 | omega)]; rw [if_pos (by first | exact h67 | omega)]; rw [if_neg (by first | exact h86 | omega)]; exact hP) | (rw [if_pos (by first | exact h45 | omega)]; rw [if_neg (by first | exact h58 | omega)]; rw [if_neg (by first | exact h67 | omega)]; rw [if_pos (by first | exact h86 | omega)]; exact hP) | (rw [if_pos (by first | exact h45 | omega)]; rw [if_neg (by first | exact h58 | omega)]; rw [if_neg (by first | exact h67 | omega)]; rw [if_neg (by first | exact h86 | omega)]; exact hP) | (rw [if_neg (by first | exact h45 | omega)]; rw [if_pos (by first | exact h58 | omega)]; rw [if_pos (by first | exact h67 | omega)]; rw [if_pos (by first | exact h86 | omega)]; exact hP) | (rw [if_neg (by first | exact h45 | omega)]; rw [if_pos (by first | exact h58 | omega)]; rw [if_pos (by first | exact h67 | omega)]; rw [if_neg (by first | exact h86 | omega)]; exact hP) | (rw [if_neg (by first | exact h45 | omega)]; rw [if_pos (by first | exact h58 | omega)]; rw [if_neg (by first | exact h67 | omega)]; rw [if_pos (by first | exact h86 | omega)]; exact hP) | (rw [if_neg (by first | exact h45 | omega)]; rw [if_pos (by first | exact h58 | omega)]; rw [if_neg (by first | exact h67 | omega)]; rw [if_neg (by first | exact h86 | omega)]; exact hP) | (rw [if_neg (by first | exact h45 | omega)]; rw [if_neg (by first | exact h58 | omega)]; rw [if_pos (by first | exact h67 | omega)]; rw [if_pos (by first | exact h86 | omega)]; exact hP) | (rw [if_neg (by first | exact h45 | omega)]; rw [if_neg (by first | exact h58 | omega)]; rw [if_pos (by first | exact h67 | omega)]; rw [if_neg (by first | exact h86 | omega)]; exact hP) | (rw [if_neg (by first | exact h45 | omega)]; rw [if_neg (by first | exact h58 | omega)]; rw [if_neg (by first | exact h67 | omega)]; rw [if_pos (by first | exact h86 | omega)]; exact hP) | (rw [if_neg (by first | exact h45 | omega)]; rw [if_neg (by first | exact h58 | omega)]; rw [if_neg (by first | exact h67 | omega)]; rw [if_neg (by first | exact h86 | omega)]; exact hP) | (rw [if_pos (by first | exact h45 | omega)]; rw [if_pos (by first | exact h58 | omega)]; rw [if_pos (by first | exact h67 | omega)]; exact hP) | (rw [if_pos (by first | exact h45 | omega)]; rw [if_pos (by first | exact h58 | omega)]; rw [if_neg (by first | exact h67 | omega)]; exact hP) | (rw [if_pos (by first | exact h45 | omega)]; rw [if_neg (by first | exact h58 | omega)]; rw [if_pos (by first | exact h67 | omega)]; exact hP) | (rw [if_pos (by first | exact h45 | omega)]; rw [if_neg (by first | exact h58 | omega)]; rw [if_neg (by first | exact h67 | omega)]; exact hP) | (rw [if_neg (by first | exact h45 | omega)]; rw [if_pos (by first | exact h58 | omega)]; rw [if_pos (by first | exact h67 | omega)]; exact hP) | (rw [if_neg (by first | exact h45 | omega)]; rw [if_pos (by first | exact h58 | omega)]; rw [if_neg (by first | exact h67 | omega)]; exact hP) | (rw [if_neg (by first | exact h45 | omega)]; rw [if_neg (by first | exact h58 | omega)]; rw [if_pos (by first | exact h67 | omega)]; exact hP) | (rw [if_neg (by first | exact h45 | omega)]; rw [if_neg (by first | exact h58 | omega)]; rw [if_neg (by first | exact h67 | omega)]; exact hP) | (rw [if_pos (by first | exact h45 | omega)]; rw [if_pos (by first | exact h58 | omega)]; exact hP) | (rw [if_pos (by first | exact h45 | omega)]; rw [if_neg (by first | exact h58 | omega)]; exact hP) | (rw [if_neg (by first | exact h45 | omega)]; rw [if_pos (by first | exact h58 | omega)]; exact hP) | (rw [if_neg (by first | exact h45 | omega)]; rw [if_neg (by first | exact h58 | omega)]; exact hP) | (rw [if_pos (by first | exact h45 | omega)]; exact hP) | (rw [if_neg (by first | exact h45 | omega)]; exact hP))
          have hl : lv_has ls 2 [(1, .int (nI (k + 1))), (0, .ref (a 33))] := by first | exact lv_sub hl [0, 1] rfl | (simp only [siM]; first | (rw [if_pos (by first | exact h45 | omega)]; rw [if_pos (by first | exact h58 | omega)]; rw [if_pos (by first | exact h67 | omega)]; rw [if_pos (by first | exact h86 | omega)]; exact lv_sub hl [0, 1] rfl) | (rw [if_pos (by first | exact h45 | omega)]; rw [if_pos (by first | exact h58 | omega)]; rw [if_pos (by first | exact h67 | omega)]; rw [if_neg (by first | exact h86 | omega)]; exact lv_sub hl [0, 1] rfl) | (rw [if_pos (by first | exact h45 | omega)]; rw [if_pos (by first | exact h58 | omega)]; rw [if_neg (by first | exact h67 | omega)]; rw [if_pos (by first | exact h86 | omega)]; exact lv_sub hl [0, 1] rfl) | (rw [if_pos (by first | exact h45 | omega)]; rw [if_pos (by first | exact h58 | omega)]; rw [if_neg (by first | exact h67 | omega)]; rw [if_neg (by first | exact h86 | omega)]; exact lv_sub hl [0, 1] rfl) | (rw [if_pos (by first | exact h45 | omega)]; rw [if_neg (by first | exact h58 | omega)]; rw [if_pos (by first | exact h67 | omega)]; rw [if_pos (by first | exact h86 | omega)]; exact lv_sub hl [0, 1] rfl) | (rw [if_pos (by first | exact h45 | omega)]; rw [if_neg (by first | exact h58 | omega)]; rw [if_pos (by first | exact h67 | omega)]; rw [if_neg (by first | exact h86 | omega)]; exact lv_sub hl [0, 1] rfl) | (rw [if_pos (by first | exact h45 | omega)]; rw [if_neg (by first | exact h58 | omega)]; rw [if_neg (by first | exact h67 | omega)]; rw [if_pos (by first | exact h86 | omega)]; exact lv_sub hl [0, 1] rfl) | (rw [if_pos (by first | exact h45 | omega)]; rw [if_neg (by first | exact h58 | omega)]; rw [if_neg (by first | exact h67 | omega)]; rw [if_neg (by first | exact h86 | omega)]; exact lv_sub hl [0, 1] rfl) | (rw [if_neg (by first | exact h45 | omega)]; rw [if_pos (by first | exact h58 | omega)]; rw [if_pos (by first | exact h67 | omega)]; rw [if_pos (by first | exact h86 | omega)]; exact lv_sub hl [0, 1] rfl) | (rw [if_neg (by first | exact h45 | omega)]; rw [if_pos (by first | exact h58 | omega)]; rw [if_pos (by first | exact h67 | omega)]; rw [if_neg (by first | exact h86 | omega)]; exact lv_sub hl [0, 1] rfl) | (rw [if_neg (by first | exact h45 | omega)]; rw [if_pos (by first | exact h58 | omega)]; rw [if_neg (by first | exact h67 | omega)]; rw [if_pos (by first | exact h86 | omega)]; exact lv_sub hl [0, 1] rfl) | (rw [if_neg (by first | exact h45 | omega)]; rw [if_pos (by first | exact h58 | omega)]; rw [if_neg (by first | exact h67 | omega)]; rw [if_neg (by first | exact h86 | omega)]; exact lv_sub hl [0, 1] rfl) | (rw [if_neg (by first | exact h45 | omega)]; rw [if_neg (by first | exact h58 | omega)]; rw [if_pos (by first | exact h67 | omega)]; rw [if_pos (by first | exact h86 | omega)]; exact lv_sub hl [0, 1] rfl) | (rw [if_neg (by first | exact h45 | omega)]; rw [if_neg (by first | exact h58 | omega)]; rw [if_pos (by first | exact h67 | omega)]; rw [if_neg (by first | exact h86 | omega)]; exact lv_sub hl [0, 1] rfl) | (rw [if_neg (by first | exact h45 | omega)]; rw [if_neg (by first | exact h58 | omega)]; rw [if_neg (by first | exact h67 | omega)]; rw [if_pos (by first | exact h86 | omega)]; exact lv_sub hl [0, 1] rfl) | (rw [if_neg (by first | exact h45 | omega)]; rw [if_neg (by first | exact h58 | omega)]; rw [if_neg (by first | exact h67 | omega)]; rw [if_neg (by first | exact h86 | omega)]; exact lv_sub hl [0, 1] rfl) | (rw [if_pos (by first | exact h45 | omega)]; rw [if_pos (by first | exact h58 | omega)]; rw [if_pos (by first | exact h67 | omega)]; exact lv_sub hl [0, 1] rfl) | (rw [if_pos (by first | exact h45 | omega)]; rw [if_pos (by first | exact h58 | omega)]; rw [if_neg (by first | exact h67 | omega)]; exact lv_sub hl [0, 1] rfl) | (rw [if_pos (by first | exact h45 | omega)]; rw [if_neg (by first | exact h58 | omega)]; rw [if_pos (by first | exact h67 | omega)]; exact lv_sub hl [0, 1] rfl) | (rw [if_pos (by first | exact h45 | omega)]; rw [if_neg (by first | exact h58 | omega)]; rw [if_neg (by first | exact h67 | omega)]; exact lv_sub hl [0, 1] rfl) | (rw [if_neg (by first | exact h45 | omega)]; rw [if_pos (by first | exact h58 | omega)]; rw [if_pos (by first | exact h67 | omega)]; exact lv_sub hl [0, 1] rfl) | (rw [if_neg (by first | exact h45 | omega)]; rw [if_pos (by first | exact h58 | omega)]; rw [if_neg (by first | exact h67 | omega)]; exact lv_sub hl [0, 1] rfl) | (rw [if_neg (by first | exact h45 | omega)]; rw [if_neg (by first | exact h58 | omega)]; rw [if_pos (by first | exact h67 | omega)]; exact lv_sub hl [0, 1] rfl) | (rw [if_neg (by first | exact h45 | omega)]; rw [if_neg (by first | exact h58 | omega)]; rw [if_neg (by first | exact h67 | omega)]; exact lv_sub hl [0, 1] rfl) | (rw [if_pos (by first | exact h45 | omega)]; rw [if_pos (by first | exact h58 | omega)]; exact lv_sub hl [0, 1] rfl) | (rw [if_pos (by first | exact h45 | omega)]; rw [if_neg (by first | exact h58 | omega)]; exact lv_sub hl [0, 1] rfl) | (rw [if_neg (by first | exact h45 | omega)]; rw [if_pos (by first | exact h58 | omega)]; exact lv_sub hl [0, 1] rfl) | (rw [if_neg (by first | exact h45 | omega)]; rw [if_neg (by first | exact h58 | omega)]; exact lv_sub hl [0, 1] rfl) | (rw [if_pos (by first | exact h45 | omega)]; exact lv_sub hl [0, 1] rfl) | (rw [if_neg (by first | exact h45 | omega)]; exact lv_sub hl [0, 1] rfl))
          exact ihr (k + 1) H locs ls (by omega) hP hS hl
        · skip
          refine lv_aload_n X.1 X.2.1 jd_M_sift_61 rfl (lv_at hl 1 rfl) ?_
          refine jg_M_20_33 X hP jd_M_sift_62 ?_
          refine lv_iload_n X.1 X.2.1 jd_M_sift_65 rfl (lv_at hl 0 rfl) ?_
          refine j_zald X hP 37 k (by decide) (show k < 128 from by omega) (by decide) jd_M_sift_66 ?_
          refine kn_eq0 X.1 X.2.1 jd_M_sift_67 (tgt := 137) (by decide) (hb9 _ _) (fun h67 => ?_) (fun h67 => ?_)
          · skip
            refine lv_iinc (k := 0) (v := nI (k + 1)) X.1 X.2.1 jd_M_sift_137 hl rfl (kn_inc _) (by decide) rfl (fun ls hl => ?_)
            have hl : lv_has ls 2 [(1, .int (nI (k + 1))), (0, .ref (a 33))] := hl
            refine lv_goto X.1 X.2.1 jd_M_sift_140 (tgt := 32) (by decide) ?_
            have hP : va_P D jCl (jW d a (siM (ku (ku n 33 0 0) 33 1 1) (k + 1)) g) H := by first | exact hP | (simp only [siM]; first | (rw [if_pos (by first | exact h45 | omega)]; rw [if_pos (by first | exact h58 | omega)]; rw [if_pos (by first | exact h67 | omega)]; rw [if_pos (by first | exact h86 | omega)]; exact hP) | (rw [if_pos (by first | exact h45 | omega)]; rw [if_pos (by first | exact h58 | omega)]; rw [if_pos (by first | exact h67 | omega)]; rw [if_neg (by first | exact h86 | omega)]; exact hP) | (rw [if_pos (by first | exact h45 | omega)]; rw [if_pos (by first | exact h58 | omega)]; rw [if_neg (by first | exact h67 | omega)]; rw [if_pos (by first | exact h86 | omega)]; exact hP) | (rw [if_pos (by first | exact h45 | omega)]; rw [if_pos (by first | exact h58 | omega)]; rw [if_neg (by first | exact h67 | omega)]; rw [if_neg (by first | exact h86 | omega)]; exact hP) | (rw [if_pos (by first | exact h45 | omega)]; rw [if_neg (by first | exact h58 | omega)]; rw [if_pos (by first | exact h67 | omega)]; rw [if_pos (by first | exact h86 | omega)]; exact hP) | (rw [if_pos (by first | exact h45 | omega)]; rw [if_neg (by first | exact h58 | omega)]; rw [if_pos (by first | exact h67 | omega)]; rw [if_neg (by first | exact h86 | omega)]; exact hP) | (rw [if_pos (by first | exact h45 | omega)]; rw [if_neg (by first | exact h58 | omega)]; rw [if_neg (by first | exact h67 | omega)]; rw [if_pos (by first | exact h86 | omega)]; exact hP) | (rw [if_pos (by first | exact h45 | omega)]; rw [if_neg (by first | exact h58 | omega)]; rw [if_neg (by first | exact h67 | omega)]; rw [if_neg (by first | exact h86 | omega)]; exact hP) | (rw [if_neg (by first | exact h45 | omega)]; rw [if_pos (by first | exact h58 | omega)]; rw [if_pos (by first | exact h67 | omega)]; rw [if_pos (by first | exact h86 | omega)]; exact hP) | (rw [if_neg (by first | exact h45 | omega)]; rw [if_pos (by first | exact h58 | omega)]; rw [if_pos (by first | exact h67 | omega)]; rw [if_neg (by first | exact h86 | omega)]; exact hP) | (rw [if_neg (by first | exact h45 | omega)]; rw [if_pos (by first | exact h58 | omega)]; rw [if_neg (by first | exact h67 | omega)]; rw [if_pos (by first | exact h86 | omega)]; exact hP) | (rw [if_neg (by first | exact h45 | omega)]; rw [if_pos (by first | exact h58 | omega)]; rw [if_neg (by first | exact h67 | omega)]; rw [if_neg (by first | exact h86 | omega)]; exact hP) | (rw [if_neg (by first | exact h45 | omega)]; rw [if_neg (by first | exact h58 | omega)]; rw [if_pos (by first | exact h67 | omega)]; rw [if_pos (by first | exact h86 | omega)]; exact hP) | (rw [if_neg (by first | exact h45 | omega)]; rw [if_neg (by first | exact h58 | omega)]; rw [if_pos (by first | exact h67 | omega)]; rw [if_neg (by first | exact h86 | omega)]; exact hP) | (rw [if_neg (by first | exact h45 | omega)]; rw [if_neg (by first | exact h58 | omega)]; rw [if_neg (by first | exact h67 | omega)]; rw [if_pos (by first | exact h86 | omega)]; exact hP) | (rw [if_neg (by first | exact h45 | omega)]; rw [if_neg (by first | exact h58 | omega)]; rw [if_neg (by first | exact h67 | omega)]; rw [if_neg (by first | exact h86 | omega)]; exact hP) | (rw [if_pos (by first | exact h45 | omega)]; rw [if_pos (by first | exact h58 | omega)]; rw [if_pos (by first | exact h67 | omega)]; exact hP) | (rw [if_pos (by first | exact h45 | omega)]; rw [if_pos (by first | exact h58 | omega)]; rw [if_neg (by first | exact h67 | omega)]; exact hP) | (rw [if_pos (by first | exact h45 | omega)]; rw [if_neg (by first | exact h58 | omega)]; rw [if_pos (by first | exact h67 | omega)]; exact hP) | (rw [if_pos (by first | exact h45 | omega)]; rw [if_neg (by first | exact h58 | omega)]; rw [if_neg (by first | exact h67 | omega)]; exact hP) | (rw [if_neg (by first | exact h45 | omega)]; rw [if_pos (by first | exact h58 | omega)]; rw [if_pos (by first | exact h67 | omega)]; exact hP) | (rw [if_neg (by first | exact h45 | omega)]; rw [if_pos (by first | exact h58 | omega)]; rw [if_neg (by first | exact h67 | omega)]; exact hP) | (rw [if_neg (by first | exact h45 | omega)]; rw [if_neg (by first | exact h58 | omega)]; rw [if_pos (by first | exact h67 | omega)]; exact hP) | (rw [if_neg (by first | exact h45 | omega)]; rw [if_neg (by first | exact h58 | omega)]; rw [if_neg (by first | exact h67 | omega)]; exact hP) | (rw [if_pos (by first | exact h45 | omega)]; rw [if_pos (by first | exact h58 | omega)]; exact hP) | (rw [if_pos (by first | exact h45 | omega)]; rw [if_neg (by first | exact h58 | omega)]; exact hP) | (rw [if_neg (by first | exact h45 | omega)]; rw [if_pos (by first | exact h58 | omega)]; exact hP) | (rw [if_neg (by first | exact h45 | omega)]; rw [if_neg (by first | exact h58 | omega)]; exact hP) | (rw [if_pos (by first | exact h45 | omega)]; exact hP) | (rw [if_neg (by first | exact h45 | omega)]; exact hP))
            have hl : lv_has ls 2 [(1, .int (nI (k + 1))), (0, .ref (a 33))] := by first | exact lv_sub hl [0, 1] rfl | (simp only [siM]; first | (rw [if_pos (by first | exact h45 | omega)]; rw [if_pos (by first | exact h58 | omega)]; rw [if_pos (by first | exact h67 | omega)]; rw [if_pos (by first | exact h86 | omega)]; exact lv_sub hl [0, 1] rfl) | (rw [if_pos (by first | exact h45 | omega)]; rw [if_pos (by first | exact h58 | omega)]; rw [if_pos (by first | exact h67 | omega)]; rw [if_neg (by first | exact h86 | omega)]; exact lv_sub hl [0, 1] rfl) | (rw [if_pos (by first | exact h45 | omega)]; rw [if_pos (by first | exact h58 | omega)]; rw [if_neg (by first | exact h67 | omega)]; rw [if_pos (by first | exact h86 | omega)]; exact lv_sub hl [0, 1] rfl) | (rw [if_pos (by first | exact h45 | omega)]; rw [if_pos (by first | exact h58 | omega)]; rw [if_neg (by first | exact h67 | omega)]; rw [if_neg (by first | exact h86 | omega)]; exact lv_sub hl [0, 1] rfl) | (rw [if_pos (by first | exact h45 | omega)]; rw [if_neg (by first | exact h58 | omega)]; rw [if_pos (by first | exact h67 | omega)]; rw [if_pos (by first | exact h86 | omega)]; exact lv_sub hl [0, 1] rfl) | (rw [if_pos (by first | exact h45 | omega)]; rw [if_neg (by first | exact h58 | omega)]; rw [if_pos (by first | exact h67 | omega)]; rw [if_neg (by first | exact h86 | omega)]; exact lv_sub hl [0, 1] rfl) | (rw [if_pos (by first | exact h45 | omega)]; rw [if_neg (by first | exact h58 | omega)]; rw [if_neg (by first | exact h67 | omega)]; rw [if_pos (by first | exact h86 | omega)]; exact lv_sub hl [0, 1] rfl) | (rw [if_pos (by first | exact h45 | omega)]; rw [if_neg (by first | exact h58 | omega)]; rw [if_neg (by first | exact h67 | omega)]; rw [if_neg (by first | exact h86 | omega)]; exact lv_sub hl [0, 1] rfl) | (rw [if_neg (by first | exact h45 | omega)]; rw [if_pos (by first | exact h58 | omega)]; rw [if_pos (by first | exact h67 | omega)]; rw [if_pos (by first | exact h86 | omega)]; exact lv_sub hl [0, 1] rfl) | (rw [if_neg (by first | exact h45 | omega)]; rw [if_pos (by first | exact h58 | omega)]; rw [if_pos (by first | exact h67 | omega)]; rw [if_neg (by first | exact h86 | omega)]; exact lv_sub hl [0, 1] rfl) | (rw [if_neg (by first | exact h45 | omega)]; rw [if_pos (by first | exact h58 | omega)]; rw [if_neg (by first | exact h67 | omega)]; rw [if_pos (by first | exact h86 | omega)]; exact lv_sub hl [0, 1] rfl) | (rw [if_neg (by first | exact h45 | omega)]; rw [if_pos (by first | exact h58 | omega)]; rw [if_neg (by first | exact h67 | omega)]; rw [if_neg (by first | exact h86 | omega)]; exact lv_sub hl [0, 1] rfl) | (rw [if_neg (by first | exact h45 | omega)]; rw [if_neg (by first | exact h58 | omega)]; rw [if_pos (by first | exact h67 | omega)]; rw [if_pos (by first | exact h86 | omega)]; exact lv_sub hl [0, 1] rfl) | (rw [if_neg (by first | exact h45 | omega)]; rw [if_neg (by first | exact h58 | omega)]; rw [if_pos (by first | exact h67 | omega)]; rw [if_neg (by first | exact h86 | omega)]; exact lv_sub hl [0, 1] rfl) | (rw [if_neg (by first | exact h45 | omega)]; rw [if_neg (by first | exact h58 | omega)]; rw [if_neg (by first | exact h67 | omega)]; rw [if_pos (by first | exact h86 | omega)]; exact lv_sub hl [0, 1] rfl) | (rw [if_neg (by first | exact h45 | omega)]; rw [if_neg (by first | exact h58 | omega)]; rw [if_neg (by first | exact h67 | omega)]; rw [if_neg (by first | exact h86 | omega)]; exact lv_sub hl [0, 1] rfl) | (rw [if_pos (by first | exact h45 | omega)]; rw [if_pos (by first | exact h58 | omega)]; rw [if_pos (by first | exact h67 | omega)]; exact lv_sub hl [0, 1] rfl) | (rw [if_pos (by first | exact h45 | omega)]; rw [if_pos (by first | exact h58 | omega)]; rw [if_neg (by first | exact h67 | omega)]; exact lv_sub hl [0, 1] rfl) | (rw [if_pos (by first | exact h45 | omega)]; rw [if_neg (by first | exact h58 | omega)]; rw [if_pos (by first | exact h67 | omega)]; exact lv_sub hl [0, 1] rfl) | (rw [if_pos (by first | exact h45 | omega)]; rw [if_neg (by first | exact h58 | omega)]; rw [if_neg (by first | exact h67 | omega)]; exact lv_sub hl [0, 1] rfl) | (rw [if_neg (by first | exact h45 | omega)]; rw [if_pos (by first | exact h58 | omega)]; rw [if_pos (by first | exact h67 | omega)]; exact lv_sub hl [0, 1] rfl) | (rw [if_neg (by first | exact h45 | omega)]; rw [if_pos (by first | exact h58 | omega)]; rw [if_neg (by first | exact h67 | omega)]; exact lv_sub hl [0, 1] rfl) | (rw [if_neg (by first | exact h45 | omega)]; rw [if_neg (by first | exact h58 | omega)]; rw [if_pos (by first | exact h67 | omega)]; exact lv_sub hl [0, 1] rfl) | (rw [if_neg (by first | exact h45 | omega)]; rw [if_neg (by first | exact h58 | omega)]; rw [if_neg (by first | exact h67 | omega)]; exact lv_sub hl [0, 1] rfl) | (rw [if_pos (by first | exact h45 | omega)]; rw [if_pos (by first | exact h58 | omega)]; exact lv_sub hl [0, 1] rfl) | (rw [if_pos (by first | exact h45 | omega)]; rw [if_neg (by first | exact h58 | omega)]; exact lv_sub hl [0, 1] rfl) | (rw [if_neg (by first | exact h45 | omega)]; rw [if_pos (by first | exact h58 | omega)]; exact lv_sub hl [0, 1] rfl) | (rw [if_neg (by first | exact h45 | omega)]; rw [if_neg (by first | exact h58 | omega)]; exact lv_sub hl [0, 1] rfl) | (rw [if_pos (by first | exact h45 | omega)]; exact lv_sub hl [0, 1] rfl) | (rw [if_neg (by first | exact h45 | omega)]; exact lv_sub hl [0, 1] rfl))
            exact ihr (k + 1) H locs ls (by omega) hP hS hl
          · skip
            refine lv_aload_n X.1 X.2.1 jd_M_sift_70 rfl (lv_at hl 1 rfl) ?_
            refine jg_M_13_33 X hP jd_M_sift_71 ?_
            refine lv_iload_n X.1 X.2.1 jd_M_sift_74 rfl (lv_at hl 0 rfl) ?_
            refine j_ald X hP 35 k (by decide) (show k < 256 from by omega) (by decide) jd_M_sift_75 ?_
            refine lv_aload_n X.1 X.2.1 jd_M_sift_76 rfl (lv_at hl 1 rfl) ?_
            refine jg_M_13_33 X hP jd_M_sift_77 ?_
            refine lv_sipush (v := nI 128) X.1 X.2.1 jd_M_sift_80 (by decide) ?_
            refine lv_iload_n X.1 X.2.1 jd_M_sift_83 rfl (lv_at hl 0 rfl) ?_
            refine kn_iadd X.1 X.2.1 jd_M_sift_84 ?_
            refine j_ald X hP 35 (128 + k) (by decide) (show (128 + k) < 256 from by omega) (by decide) jd_M_sift_85 ?_
            refine kn_cne X.1 X.2.1 jd_M_sift_86 (tgt := 137) (by decide) (⟨hb9 _ _, hb9 _ _⟩) (fun h86 => ?_) (fun h86 => ?_)
            · skip
              refine lv_iinc (k := 0) (v := nI (k + 1)) X.1 X.2.1 jd_M_sift_137 hl rfl (kn_inc _) (by decide) rfl (fun ls hl => ?_)
              have hl : lv_has ls 2 [(1, .int (nI (k + 1))), (0, .ref (a 33))] := hl
              refine lv_goto X.1 X.2.1 jd_M_sift_140 (tgt := 32) (by decide) ?_
              have hP : va_P D jCl (jW d a (siM (ku (ku n 33 0 0) 33 1 1) (k + 1)) g) H := by first | exact hP | (simp only [siM]; first | (rw [if_pos (by first | exact h45 | omega)]; rw [if_pos (by first | exact h58 | omega)]; rw [if_pos (by first | exact h67 | omega)]; rw [if_pos (by first | exact h86 | omega)]; exact hP) | (rw [if_pos (by first | exact h45 | omega)]; rw [if_pos (by first | exact h58 | omega)]; rw [if_pos (by first | exact h67 | omega)]; rw [if_neg (by first | exact h86 | omega)]; exact hP) | (rw [if_pos (by first | exact h45 | omega)]; rw [if_pos (by first | exact h58 | omega)]; rw [if_neg (by first | exact h67 | omega)]; rw [if_pos (by first | exact h86 | omega)]; exact hP) | (rw [if_pos (by first | exact h45 | omega)]; rw [if_pos (by first | exact h58 | omega)]; rw [if_neg (by first | exact h67 | omega)]; rw [if_neg (by first | exact h86 | omega)]; exact hP) | (rw [if_pos (by first | exact h45 | omega)]; rw [if_neg (by first | exact h58 | omega)]; rw [if_pos (by first | exact h67 | omega)]; rw [if_pos (by first | exact h86 | omega)]; exact hP) | (rw [if_pos (by first | exact h45 | omega)]; rw [if_neg (by first | exact h58 | omega)]; rw [if_pos (by first | exact h67 | omega)]; rw [if_neg (by first | exact h86 | omega)]; exact hP) | (rw [if_pos (by first | exact h45 | omega)]; rw [if_neg (by first | exact h58 | omega)]; rw [if_neg (by first | exact h67 | omega)]; rw [if_pos (by first | exact h86 | omega)]; exact hP) | (rw [if_pos (by first | exact h45 | omega)]; rw [if_neg (by first | exact h58 | omega)]; rw [if_neg (by first | exact h67 | omega)]; rw [if_neg (by first | exact h86 | omega)]; exact hP) | (rw [if_neg (by first | exact h45 | omega)]; rw [if_pos (by first | exact h58 | omega)]; rw [if_pos (by first | exact h67 | omega)]; rw [if_pos (by first | exact h86 | omega)]; exact hP) | (rw [if_neg (by first | exact h45 | omega)]; rw [if_pos (by first | exact h58 | omega)]; rw [if_pos (by first | exact h67 | omega)]; rw [if_neg (by first | exact h86 | omega)]; exact hP) | (rw [if_neg (by first | exact h45 | omega)]; rw [if_pos (by first | exact h58 | omega)]; rw [if_neg (by first | exact h67 | omega)]; rw [if_pos (by first | exact h86 | omega)]; exact hP) | (rw [if_neg (by first | exact h45 | omega)]; rw [if_pos (by first | exact h58 | omega)]; rw [if_neg (by first | exact h67 | omega)]; rw [if_neg (by first | exact h86 | omega)]; exact hP) | (rw [if_neg (by first | exact h45 | omega)]; rw [if_neg (by first | exact h58 | omega)]; rw [if_pos (by first | exact h67 | omega)]; rw [if_pos (by first | exact h86 | omega)]; exact hP) | (rw [if_neg (by first | exact h45 | omega)]; rw [if_neg (by first | exact h58 | omega)]; rw [if_pos (by first | exact h67 | omega)]; rw [if_neg (by first | exact h86 | omega)]; exact hP) | (rw [if_neg (by first | exact h45 | omega)]; rw [if_neg (by first | exact h58 | omega)]; rw [if_neg (by first | exact h67 | omega)]; rw [if_pos (by first | exact h86 | omega)]; exact hP) | (rw [if_neg (by first | exact h45 | omega)]; rw [if_neg (by first | exact h58 | omega)]; rw [if_neg (by first | exact h67 | omega)]; rw [if_neg (by first | exact h86 | omega)]; exact hP) | (rw [if_pos (by first | exact h45 | omega)]; rw [if_pos (by first | exact h58 | omega)]; rw [if_pos (by first | exact h67 | omega)]; exact hP) | (rw [if_pos (by first | exact h45 | omega)]; rw [if_pos (by first | exact h58 | omega)]; rw [if_neg (by first | exact h67 | omega)]; exact hP) | (rw [if_pos (by first | exact h45 | omega)]; rw [if_neg (by first | exact h58 | omega)]; rw [if_pos (by first | exact h67 | omega)]; exact hP) | (rw [if_pos (by first | exact h45 | omega)]; rw [if_neg (by first | exact h58 | omega)]; rw [if_neg (by first | exact h67 | omega)]; exact hP) | (rw [if_neg (by first | exact h45 | omega)]; rw [if_pos (by first | exact h58 | omega)]; rw [if_pos (by first | exact h67 | omega)]; exact hP) | (rw [if_neg (by first | exact h45 | omega)]; rw [if_pos (by first | exact h58 | omega)]; rw [if_neg (by first | exact h67 | omega)]; exact hP) | (rw [if_neg (by first | exact h45 | omega)]; rw [if_neg (by first | exact h58 | omega)]; rw [if_pos (by first | exact h67 | omega)]; exact hP) | (rw [if_neg (by first | exact h45 | omega)]; rw [if_neg (by first | exact h58 | omega)]; rw [if_neg (by first | exact h67 | omega)]; exact hP) | (rw [if_pos (by first | exact h45 | omega)]; rw [if_pos (by first | exact h58 | omega)]; exact hP) | (rw [if_pos (by first | exact h45 | omega)]; rw [if_neg (by first | exact h58 | omega)]; exact hP) | (rw [if_neg (by first | exact h45 | omega)]; rw [if_pos (by first | exact h58 | omega)]; exact hP) | (rw [if_neg (by first | exact h45 | omega)]; rw [if_neg (by first | exact h58 | omega)]; exact hP) | (rw [if_pos (by first | exact h45 | omega)]; exact hP) | (rw [if_neg (by first | exact h45 | omega)]; exact hP))
              have hl : lv_has ls 2 [(1, .int (nI (k + 1))), (0, .ref (a 33))] := by first | exact lv_sub hl [0, 1] rfl | (simp only [siM]; first | (rw [if_pos (by first | exact h45 | omega)]; rw [if_pos (by first | exact h58 | omega)]; rw [if_pos (by first | exact h67 | omega)]; rw [if_pos (by first | exact h86 | omega)]; exact lv_sub hl [0, 1] rfl) | (rw [if_pos (by first | exact h45 | omega)]; rw [if_pos (by first | exact h58 | omega)]; rw [if_pos (by first | exact h67 | omega)]; rw [if_neg (by first | exact h86 | omega)]; exact lv_sub hl [0, 1] rfl) | (rw [if_pos (by first | exact h45 | omega)]; rw [if_pos (by first | exact h58 | omega)]; rw [if_neg (by first | exact h67 | omega)]; rw [if_pos (by first | exact h86 | omega)]; exact lv_sub hl [0, 1] rfl) | (rw [if_pos (by first | exact h45 | omega)]; rw [if_pos (by first | exact h58 | omega)]; rw [if_neg (by first | exact h67 | omega)]; rw [if_neg (by first | exact h86 | omega)]; exact lv_sub hl [0, 1] rfl) | (rw [if_pos (by first | exact h45 | omega)]; rw [if_neg (by first | exact h58 | omega)]; rw [if_pos (by first | exact h67 | omega)]; rw [if_pos (by first | exact h86 | omega)]; exact lv_sub hl [0, 1] rfl) | (rw [if_pos (by first | exact h45 | omega)]; rw [if_neg (by first | exact h58 | omega)]; rw [if_pos (by first | exact h67 | omega)]; rw [if_neg (by first | exact h86 | omega)]; exact lv_sub hl [0, 1] rfl) | (rw [if_pos (by first | exact h45 | omega)]; rw [if_neg (by first | exact h58 | omega)]; rw [if_neg (by first | exact h67 | omega)]; rw [if_pos (by first | exact h86 | omega)]; exact lv_sub hl [0, 1] rfl) | (rw [if_pos (by first | exact h45 | omega)]; rw [if_neg (by first | exact h58 | omega)]; rw [if_neg (by first | exact h67 | omega)]; rw [if_neg (by first | exact h86 | omega)]; exact lv_sub hl [0, 1] rfl) | (rw [if_neg (by first | exact h45 | omega)]; rw [if_pos (by first | exact h58 | omega)]; rw [if_pos (by first | exact h67 | omega)]; rw [if_pos (by first | exact h86 | omega)]; exact lv_sub hl [0, 1] rfl) | (rw [if_neg (by first | exact h45 | omega)]; rw [if_pos (by first | exact h58 | omega)]; rw [if_pos (by first | exact h67 | omega)]; rw [if_neg (by first | exact h86 | omega)]; exact lv_sub hl [0, 1] rfl) | (rw [if_neg (by first | exact h45 | omega)]; rw [if_pos (by first | exact h58 | omega)]; rw [if_neg (by first | exact h67 | omega)]; rw [if_pos (by first | exact h86 | omega)]; exact lv_sub hl [0, 1] rfl) | (rw [if_neg (by first | exact h45 | omega)]; rw [if_pos (by first | exact h58 | omega)]; rw [if_neg (by first | exact h67 | omega)]; rw [if_neg (by first | exact h86 | omega)]; exact lv_sub hl [0, 1] rfl) | (rw [if_neg (by first | exact h45 | omega)]; rw [if_neg (by first | exact h58 | omega)]; rw [if_pos (by first | exact h67 | omega)]; rw [if_pos (by first | exact h86 | omega)]; exact lv_sub hl [0, 1] rfl) | (rw [if_neg (by first | exact h45 | omega)]; rw [if_neg (by first | exact h58 | omega)]; rw [if_pos (by first | exact h67 | omega)]; rw [if_neg (by first | exact h86 | omega)]; exact lv_sub hl [0, 1] rfl) | (rw [if_neg (by first | exact h45 | omega)]; rw [if_neg (by first | exact h58 | omega)]; rw [if_neg (by first | exact h67 | omega)]; rw [if_pos (by first | exact h86 | omega)]; exact lv_sub hl [0, 1] rfl) | (rw [if_neg (by first | exact h45 | omega)]; rw [if_neg (by first | exact h58 | omega)]; rw [if_neg (by first | exact h67 | omega)]; rw [if_neg (by first | exact h86 | omega)]; exact lv_sub hl [0, 1] rfl) | (rw [if_pos (by first | exact h45 | omega)]; rw [if_pos (by first | exact h58 | omega)]; rw [if_pos (by first | exact h67 | omega)]; exact lv_sub hl [0, 1] rfl) | (rw [if_pos (by first | exact h45 | omega)]; rw [if_pos (by first | exact h58 | omega)]; rw [if_neg (by first | exact h67 | omega)]; exact lv_sub hl [0, 1] rfl) | (rw [if_pos (by first | exact h45 | omega)]; rw [if_neg (by first | exact h58 | omega)]; rw [if_pos (by first | exact h67 | omega)]; exact lv_sub hl [0, 1] rfl) | (rw [if_pos (by first | exact h45 | omega)]; rw [if_neg (by first | exact h58 | omega)]; rw [if_neg (by first | exact h67 | omega)]; exact lv_sub hl [0, 1] rfl) | (rw [if_neg (by first | exact h45 | omega)]; rw [if_pos (by first | exact h58 | omega)]; rw [if_pos (by first | exact h67 | omega)]; exact lv_sub hl [0, 1] rfl) | (rw [if_neg (by first | exact h45 | omega)]; rw [if_pos (by first | exact h58 | omega)]; rw [if_neg (by first | exact h67 | omega)]; exact lv_sub hl [0, 1] rfl) | (rw [if_neg (by first | exact h45 | omega)]; rw [if_neg (by first | exact h58 | omega)]; rw [if_pos (by first | exact h67 | omega)]; exact lv_sub hl [0, 1] rfl) | (rw [if_neg (by first | exact h45 | omega)]; rw [if_neg (by first | exact h58 | omega)]; rw [if_neg (by first | exact h67 | omega)]; exact lv_sub hl [0, 1] rfl) | (rw [if_pos (by first | exact h45 | omega)]; rw [if_pos (by first | exact h58 | omega)]; exact lv_sub hl [0, 1] rfl) | (rw [if_pos (by first | exact h45 | omega)]; rw [if_neg (by first | exact h58 | omega)]; exact lv_sub hl [0, 1] rfl) | (rw [if_neg (by first | exact h45 | omega)]; rw [if_pos (by first | exact h58 | omega)]; exact lv_sub hl [0, 1] rfl) | (rw [if_neg (by first | exact h45 | omega)]; rw [if_neg (by first | exact h58 | omega)]; exact lv_sub hl [0, 1] rfl) | (rw [if_pos (by first | exact h45 | omega)]; exact lv_sub hl [0, 1] rfl) | (rw [if_neg (by first | exact h45 | omega)]; exact lv_sub hl [0, 1] rfl))
              exact ihr (k + 1) H locs ls (by omega) hP hS hl
            · skip
              refine lv_aload_n X.1 X.2.1 jd_M_sift_89 rfl (lv_at hl 1 rfl) ?_
              refine jg_M_23_33 X hP jd_M_sift_90 ?_
              refine lv_aload_n X.1 X.2.1 jd_M_sift_93 rfl (lv_at hl 1 rfl) ?_
              refine jg_M_85_33 X hP jd_M_sift_94 ?_
              refine lv_aload_n X.1 X.2.1 jd_M_sift_97 rfl (lv_at hl 1 rfl) ?_
              refine jg_M_17_33 X hP jd_M_sift_98 ?_
              refine lv_iload_n X.1 X.2.1 jd_M_sift_101 rfl (lv_at hl 0 rfl) ?_
              refine j_ald X hP 36 k (by decide) (show k < 256 from by omega) (by decide) jd_M_sift_102 ?_
              refine j_ast X hap hP hS 38 ((siM (ku (ku n 33 0 0) 33 1 1) k) 33 2) ((siM (ku (ku n 33 0 0) 33 1 1) k) 36 k) (by decide) (show ((siM (ku (ku n 33 0 0) 33 1 1) k) 33 2) < 256 from by omega) (by decide) jd_M_sift_103 (fun H locs hP hS => ?_)
              refine lv_aload_n X.1 X.2.1 jd_M_sift_104 rfl (lv_at hl 1 rfl) ?_
              refine jg_M_23_33 X hP jd_M_sift_105 ?_
              refine lv_sipush (v := nI 128) X.1 X.2.1 jd_M_sift_108 (by decide) ?_
              refine lv_aload_n X.1 X.2.1 jd_M_sift_111 rfl (lv_at hl 1 rfl) ?_
              refine jg_M_85_33 X hP jd_M_sift_112 ?_
              refine kn_to (y := (siM (ku (ku n 33 0 0) 33 1 1) k) 33 2) (rfl) ?_
              refine kn_iadd X.1 X.2.1 jd_M_sift_115 ?_
              refine lv_aload_n X.1 X.2.1 jd_M_sift_116 rfl (lv_at hl 1 rfl) ?_
              refine jg_M_17_33 X hP jd_M_sift_117 ?_
              refine lv_sipush (v := nI 128) X.1 X.2.1 jd_M_sift_120 (by decide) ?_
              refine lv_iload_n X.1 X.2.1 jd_M_sift_123 rfl (lv_at hl 0 rfl) ?_
              refine kn_iadd X.1 X.2.1 jd_M_sift_124 ?_
              refine j_ald X hP 36 (128 + k) (by decide) (show (128 + k) < 256 from by omega) (by decide) jd_M_sift_125 ?_
              refine j_ast X hap hP hS 38 (128 + ((siM (ku (ku n 33 0 0) 33 1 1) k) 33 2)) ((ku (siM (ku (ku n 33 0 0) 33 1 1) k) 38 ((siM (ku (ku n 33 0 0) 33 1 1) k) 33 2) ((siM (ku (ku n 33 0 0) 33 1 1) k) 36 k)) 36 (128 + k)) (by decide) (show (128 + ((siM (ku (ku n 33 0 0) 33 1 1) k) 33 2)) < 256 from by omega) (by decide) jd_M_sift_126 (fun H locs hP hS => ?_)
              refine lv_aload_n X.1 X.2.1 jd_M_sift_127 rfl (lv_at hl 1 rfl) ?_
              refine lv_dup X.1 X.2.1 jd_M_sift_128 rfl ?_
              refine jg_M_85_33 X hP jd_M_sift_129 ?_
              refine kn_to (y := (siM (ku (ku n 33 0 0) 33 1 1) k) 33 2) (rfl) ?_
              refine lv_iconst (v := nI 1) X.1 X.2.1 jd_M_sift_132 (by decide) ?_
              refine kn_iadd X.1 X.2.1 jd_M_sift_133 ?_
              refine jp_M_85_33 X hap hP hS jd_M_sift_134 (fun H locs hP hS => ?_)
              refine lv_iinc (k := 0) (v := nI (k + 1)) X.1 X.2.1 jd_M_sift_137 hl rfl (kn_inc _) (by decide) rfl (fun ls hl => ?_)
              have hl : lv_has ls 2 [(1, .int (nI (k + 1))), (0, .ref (a 33))] := hl
              refine lv_goto X.1 X.2.1 jd_M_sift_140 (tgt := 32) (by decide) ?_
              have hP : va_P D jCl (jW d a (siM (ku (ku n 33 0 0) 33 1 1) (k + 1)) g) H := by first | exact hP | (simp only [siM]; first | (rw [if_pos (by first | exact h45 | omega)]; rw [if_pos (by first | exact h58 | omega)]; rw [if_pos (by first | exact h67 | omega)]; rw [if_pos (by first | exact h86 | omega)]; exact hP) | (rw [if_pos (by first | exact h45 | omega)]; rw [if_pos (by first | exact h58 | omega)]; rw [if_pos (by first | exact h67 | omega)]; rw [if_neg (by first | exact h86 | omega)]; exact hP) | (rw [if_pos (by first | exact h45 | omega)]; rw [if_pos (by first | exact h58 | omega)]; rw [if_neg (by first | exact h67 | omega)]; rw [if_pos (by first | exact h86 | omega)]; exact hP) | (rw [if_pos (by first | exact h45 | omega)]; rw [if_pos (by first | exact h58 | omega)]; rw [if_neg (by first | exact h67 | omega)]; rw [if_neg (by first | exact h86 | omega)]; exact hP) | (rw [if_pos (by first | exact h45 | omega)]; rw [if_neg (by first | exact h58 | omega)]; rw [if_pos (by first | exact h67 | omega)]; rw [if_pos (by first | exact h86 | omega)]; exact hP) | (rw [if_pos (by first | exact h45 | omega)]; rw [if_neg (by first | exact h58 | omega)]; rw [if_pos (by first | exact h67 | omega)]; rw [if_neg (by first | exact h86 | omega)]; exact hP) | (rw [if_pos (by first | exact h45 | omega)]; rw [if_neg (by first | exact h58 | omega)]; rw [if_neg (by first | exact h67 | omega)]; rw [if_pos (by first | exact h86 | omega)]; exact hP) | (rw [if_pos (by first | exact h45 | omega)]; rw [if_neg (by first | exact h58 | omega)]; rw [if_neg (by first | exact h67 | omega)]; rw [if_neg (by first | exact h86 | omega)]; exact hP) | (rw [if_neg (by first | exact h45 | omega)]; rw [if_pos (by first | exact h58 | omega)]; rw [if_pos (by first | exact h67 | omega)]; rw [if_pos (by first | exact h86 | omega)]; exact hP) | (rw [if_neg (by first | exact h45 | omega)]; rw [if_pos (by first | exact h58 | omega)]; rw [if_pos (by first | exact h67 | omega)]; rw [if_neg (by first | exact h86 | omega)]; exact hP) | (rw [if_neg (by first | exact h45 | omega)]; rw [if_pos (by first | exact h58 | omega)]; rw [if_neg (by first | exact h67 | omega)]; rw [if_pos (by first | exact h86 | omega)]; exact hP) | (rw [if_neg (by first | exact h45 | omega)]; rw [if_pos (by first | exact h58 | omega)]; rw [if_neg (by first | exact h67 | omega)]; rw [if_neg (by first | exact h86 | omega)]; exact hP) | (rw [if_neg (by first | exact h45 | omega)]; rw [if_neg (by first | exact h58 | omega)]; rw [if_pos (by first | exact h67 | omega)]; rw [if_pos (by first | exact h86 | omega)]; exact hP) | (rw [if_neg (by first | exact h45 | omega)]; rw [if_neg (by first | exact h58 | omega)]; rw [if_pos (by first | exact h67 | omega)]; rw [if_neg (by first | exact h86 | omega)]; exact hP) | (rw [if_neg (by first | exact h45 | omega)]; rw [if_neg (by first | exact h58 | omega)]; rw [if_neg (by first | exact h67 | omega)]; rw [if_pos (by first | exact h86 | omega)]; exact hP) | (rw [if_neg (by first | exact h45 | omega)]; rw [if_neg (by first | exact h58 | omega)]; rw [if_neg (by first | exact h67 | omega)]; rw [if_neg (by first | exact h86 | omega)]; exact hP) | (rw [if_pos (by first | exact h45 | omega)]; rw [if_pos (by first | exact h58 | omega)]; rw [if_pos (by first | exact h67 | omega)]; exact hP) | (rw [if_pos (by first | exact h45 | omega)]; rw [if_pos (by first | exact h58 | omega)]; rw [if_neg (by first | exact h67 | omega)]; exact hP) | (rw [if_pos (by first | exact h45 | omega)]; rw [if_neg (by first | exact h58 | omega)]; rw [if_pos (by first | exact h67 | omega)]; exact hP) | (rw [if_pos (by first | exact h45 | omega)]; rw [if_neg (by first | exact h58 | omega)]; rw [if_neg (by first | exact h67 | omega)]; exact hP) | (rw [if_neg (by first | exact h45 | omega)]; rw [if_pos (by first | exact h58 | omega)]; rw [if_pos (by first | exact h67 | omega)]; exact hP) | (rw [if_neg (by first | exact h45 | omega)]; rw [if_pos (by first | exact h58 | omega)]; rw [if_neg (by first | exact h67 | omega)]; exact hP) | (rw [if_neg (by first | exact h45 | omega)]; rw [if_neg (by first | exact h58 | omega)]; rw [if_pos (by first | exact h67 | omega)]; exact hP) | (rw [if_neg (by first | exact h45 | omega)]; rw [if_neg (by first | exact h58 | omega)]; rw [if_neg (by first | exact h67 | omega)]; exact hP) | (rw [if_pos (by first | exact h45 | omega)]; rw [if_pos (by first | exact h58 | omega)]; exact hP) | (rw [if_pos (by first | exact h45 | omega)]; rw [if_neg (by first | exact h58 | omega)]; exact hP) | (rw [if_neg (by first | exact h45 | omega)]; rw [if_pos (by first | exact h58 | omega)]; exact hP) | (rw [if_neg (by first | exact h45 | omega)]; rw [if_neg (by first | exact h58 | omega)]; exact hP) | (rw [if_pos (by first | exact h45 | omega)]; exact hP) | (rw [if_neg (by first | exact h45 | omega)]; exact hP))
              have hl : lv_has ls 2 [(1, .int (nI (k + 1))), (0, .ref (a 33))] := by first | exact lv_sub hl [0, 1] rfl | (simp only [siM]; first | (rw [if_pos (by first | exact h45 | omega)]; rw [if_pos (by first | exact h58 | omega)]; rw [if_pos (by first | exact h67 | omega)]; rw [if_pos (by first | exact h86 | omega)]; exact lv_sub hl [0, 1] rfl) | (rw [if_pos (by first | exact h45 | omega)]; rw [if_pos (by first | exact h58 | omega)]; rw [if_pos (by first | exact h67 | omega)]; rw [if_neg (by first | exact h86 | omega)]; exact lv_sub hl [0, 1] rfl) | (rw [if_pos (by first | exact h45 | omega)]; rw [if_pos (by first | exact h58 | omega)]; rw [if_neg (by first | exact h67 | omega)]; rw [if_pos (by first | exact h86 | omega)]; exact lv_sub hl [0, 1] rfl) | (rw [if_pos (by first | exact h45 | omega)]; rw [if_pos (by first | exact h58 | omega)]; rw [if_neg (by first | exact h67 | omega)]; rw [if_neg (by first | exact h86 | omega)]; exact lv_sub hl [0, 1] rfl) | (rw [if_pos (by first | exact h45 | omega)]; rw [if_neg (by first | exact h58 | omega)]; rw [if_pos (by first | exact h67 | omega)]; rw [if_pos (by first | exact h86 | omega)]; exact lv_sub hl [0, 1] rfl) | (rw [if_pos (by first | exact h45 | omega)]; rw [if_neg (by first | exact h58 | omega)]; rw [if_pos (by first | exact h67 | omega)]; rw [if_neg (by first | exact h86 | omega)]; exact lv_sub hl [0, 1] rfl) | (rw [if_pos (by first | exact h45 | omega)]; rw [if_neg (by first | exact h58 | omega)]; rw [if_neg (by first | exact h67 | omega)]; rw [if_pos (by first | exact h86 | omega)]; exact lv_sub hl [0, 1] rfl) | (rw [if_pos (by first | exact h45 | omega)]; rw [if_neg (by first | exact h58 | omega)]; rw [if_neg (by first | exact h67 | omega)]; rw [if_neg (by first | exact h86 | omega)]; exact lv_sub hl [0, 1] rfl) | (rw [if_neg (by first | exact h45 | omega)]; rw [if_pos (by first | exact h58 | omega)]; rw [if_pos (by first | exact h67 | omega)]; rw [if_pos (by first | exact h86 | omega)]; exact lv_sub hl [0, 1] rfl) | (rw [if_neg (by first | exact h45 | omega)]; rw [if_pos (by first | exact h58 | omega)]; rw [if_pos (by first | exact h67 | omega)]; rw [if_neg (by first | exact h86 | omega)]; exact lv_sub hl [0, 1] rfl) | (rw [if_neg (by first | exact h45 | omega)]; rw [if_pos (by first | exact h58 | omega)]; rw [if_neg (by first | exact h67 | omega)]; rw [if_pos (by first | exact h86 | omega)]; exact lv_sub hl [0, 1] rfl) | (rw [if_neg (by first | exact h45 | omega)]; rw [if_pos (by first | exact h58 | omega)]; rw [if_neg (by first | exact h67 | omega)]; rw [if_neg (by first | exact h86 | omega)]; exact lv_sub hl [0, 1] rfl) | (rw [if_neg (by first | exact h45 | omega)]; rw [if_neg (by first | exact h58 | omega)]; rw [if_pos (by first | exact h67 | omega)]; rw [if_pos (by first | exact h86 | omega)]; exact lv_sub hl [0, 1] rfl) | (rw [if_neg (by first | exact h45 | omega)]; rw [if_neg (by first | exact h58 | omega)]; rw [if_pos (by first | exact h67 | omega)]; rw [if_neg (by first | exact h86 | omega)]; exact lv_sub hl [0, 1] rfl) | (rw [if_neg (by first | exact h45 | omega)]; rw [if_neg (by first | exact h58 | omega)]; rw [if_neg (by first | exact h67 | omega)]; rw [if_pos (by first | exact h86 | omega)]; exact lv_sub hl [0, 1] rfl) | (rw [if_neg (by first | exact h45 | omega)]; rw [if_neg (by first | exact h58 | omega)]; rw [if_neg (by first | exact h67 | omega)]; rw [if_neg (by first | exact h86 | omega)]; exact lv_sub hl [0, 1] rfl) | (rw [if_pos (by first | exact h45 | omega)]; rw [if_pos (by first | exact h58 | omega)]; rw [if_pos (by first | exact h67 | omega)]; exact lv_sub hl [0, 1] rfl) | (rw [if_pos (by first | exact h45 | omega)]; rw [if_pos (by first | exact h58 | omega)]; rw [if_neg (by first | exact h67 | omega)]; exact lv_sub hl [0, 1] rfl) | (rw [if_pos (by first | exact h45 | omega)]; rw [if_neg (by first | exact h58 | omega)]; rw [if_pos (by first | exact h67 | omega)]; exact lv_sub hl [0, 1] rfl) | (rw [if_pos (by first | exact h45 | omega)]; rw [if_neg (by first | exact h58 | omega)]; rw [if_neg (by first | exact h67 | omega)]; exact lv_sub hl [0, 1] rfl) | (rw [if_neg (by first | exact h45 | omega)]; rw [if_pos (by first | exact h58 | omega)]; rw [if_pos (by first | exact h67 | omega)]; exact lv_sub hl [0, 1] rfl) | (rw [if_neg (by first | exact h45 | omega)]; rw [if_pos (by first | exact h58 | omega)]; rw [if_neg (by first | exact h67 | omega)]; exact lv_sub hl [0, 1] rfl) | (rw [if_neg (by first | exact h45 | omega)]; rw [if_neg (by first | exact h58 | omega)]; rw [if_pos (by first | exact h67 | omega)]; exact lv_sub hl [0, 1] rfl) | (rw [if_neg (by first | exact h45 | omega)]; rw [if_neg (by first | exact h58 | omega)]; rw [if_neg (by first | exact h67 | omega)]; exact lv_sub hl [0, 1] rfl) | (rw [if_pos (by first | exact h45 | omega)]; rw [if_pos (by first | exact h58 | omega)]; exact lv_sub hl [0, 1] rfl) | (rw [if_pos (by first | exact h45 | omega)]; rw [if_neg (by first | exact h58 | omega)]; exact lv_sub hl [0, 1] rfl) | (rw [if_neg (by first | exact h45 | omega)]; rw [if_pos (by first | exact h58 | omega)]; exact lv_sub hl [0, 1] rfl) | (rw [if_neg (by first | exact h45 | omega)]; rw [if_neg (by first | exact h58 | omega)]; exact lv_sub hl [0, 1] rfl) | (rw [if_pos (by first | exact h45 | omega)]; exact lv_sub hl [0, 1] rfl) | (rw [if_neg (by first | exact h45 | omega)]; exact lv_sub hl [0, 1] rfl))
              exact ihr (k + 1) H locs ls (by omega) hP hS hl
  have hl : lv_has ls 2 [(1, .int (nI 0)), (0, .ref (a 33))] := lv_sub hl [0, 1] rfl
  exact loop32 (128) 0 H locs ls (by omega) hP hS hl

set_option maxHeartbeats 4000000 in
theorem c_M_sample_1a (l : Launch) (d : Nat → Nat) (D : va_G) (a : Nat → Nat) (n : Nat → Nat → Nat) (g : Nat → Nat) (hap : ∀ i j : Nat, i < 52 → j < 52 → a i = a j → i = j) (hB : NB n) (z k : Nat) (hs : n 33 1 = 0) : jEff l d D a n g jy_M_sample jb_M_sample 7 (some .int) { frames := 3, cells := 0, slots := 0, locals := 73 } [.ref (a 33), .long (lN z), .int (nI k)] (fun v9 n2 g2 => some (.int (nI 0)) = v9 ∧ ku n 33 0 1 = n2 ∧ g = g2) := by
  refine je_I (by decide) (Nat.le_of_ble_eq_true rfl) ?_
  intro p e s m A below meth c ls Q X hP hS hl hQ
  have hl : lv_has ls 7 [(0, .ref (a 33)), (1, .long (lN z)), (3, .int (nI k))] := hl
  refine lv_aload_n X.1 X.2.1 jd_M_sample_0 rfl (lv_at hl 0 rfl) ?_
  refine lv_aload_n X.1 X.2.1 jd_M_sample_1 rfl (lv_at hl 0 rfl) ?_
  refine jg_M_77_33 X hP jd_M_sample_2 ?_
  refine kn_eq0 X.1 X.2.1 jd_M_sample_5 (tgt := 15) (by decide) (hB _ _) (fun h5 => ?_) (fun h5 => absurd h5 (fun q => q hs))
  refine lv_iconst (v := nI 1) X.1 X.2.1 jd_M_sample_15 (by decide) ?_
  refine lv_goto X.1 X.2.1 jd_M_sample_16 (tgt := 36) (by decide) ?_
  refine jp_M_66_33 X hap hP hS jd_M_sample_36 (fun H locs hP hS => ?_)
  refine lv_aload_n X.1 X.2.1 jd_M_sample_39 rfl (lv_at hl 0 rfl) ?_
  refine jg_M_66_33 X hP jd_M_sample_40 ?_
  refine kn_to (y := 1) (rfl) ?_
  refine kn_le0 X.1 X.2.1 jd_M_sample_43 (tgt := 48) (by decide) (by omega) (fun h43 => absurd h43 (by omega)) (fun h43 => ?_)
  refine lv_iconst (v := nI 0) X.1 X.2.1 jd_M_sample_46 (by decide) ?_
  exact hQ _ _ _ _ _ _ _ (⟨rfl, rfl, rfl⟩) hP hS jd_M_sample_47

set_option maxHeartbeats 4000000 in
theorem c_M_start_1a (l : Launch) (d : Nat → Nat) (D : va_G) (a : Nat → Nat) (n : Nat → Nat → Nat) (g : Nat → Nat) (hap : ∀ i j : Nat, i < 52 → j < 52 → a i = a j → i = j) (hB : NB n) (k z : Nat) (hs : n 33 1 = 0) : jEff l d D a n g jy_M_start jb_M_start 6 (some .int) { frames := 4, cells := 0, slots := 0, locals := 95 } [.ref (a 33), .int (nI k), .long (lN z)] (fun v9 n2 g2 => some (.int (nI 0)) = v9 ∧ ku n 33 0 1 = n2 ∧ g = g2) := by
  refine je_I (by decide) (Nat.le_of_ble_eq_true rfl) ?_
  intro p e s m A below meth c ls Q X hP hS hl hQ
  have hl : lv_has ls 6 [(0, .ref (a 33)), (1, .int (nI k)), (2, .long (lN z))] := hl
  refine lv_aload_n X.1 X.2.1 jd_M_start_0 rfl (lv_at hl 0 rfl) ?_
  refine lv_aload_n X.1 X.2.1 jd_M_start_1 rfl (lv_at hl 0 rfl) ?_
  refine jg_M_77_33 X hP jd_M_start_2 ?_
  refine kn_eq0 X.1 X.2.1 jd_M_start_5 (tgt := 15) (by decide) (hB _ _) (fun h5 => ?_) (fun h5 => absurd h5 (fun q => q hs))
  refine lv_iconst (v := nI 1) X.1 X.2.1 jd_M_start_15 (by decide) ?_
  refine lv_goto X.1 X.2.1 jd_M_start_16 (tgt := 36) (by decide) ?_
  refine jp_M_66_33 X hap hP hS jd_M_start_36 (fun H locs hP hS => ?_)
  refine lv_aload_n X.1 X.2.1 jd_M_start_39 rfl (lv_at hl 0 rfl) ?_
  refine jg_M_66_33 X hP jd_M_start_40 ?_
  refine kn_to (y := 1) (rfl) ?_
  refine kn_le0 X.1 X.2.1 jd_M_start_43 (tgt := 48) (by decide) (by omega) (fun h43 => absurd h43 (by omega)) (fun h43 => ?_)
  refine lv_iconst (v := nI 0) X.1 X.2.1 jd_M_start_46 (by decide) ?_
  exact hQ _ _ _ _ _ _ _ (⟨rfl, rfl, rfl⟩) hP hS jd_M_start_47

set_option maxHeartbeats 4000000 in
theorem c_M_sample_1b (l : Launch) (d : Nat → Nat) (D : va_G) (a : Nat → Nat) (n : Nat → Nat → Nat) (g : Nat → Nat) (hap : ∀ i j : Nat, i < 52 → j < 52 → a i = a j → i = j) (hB : NB n) (z k : Nat) (hs : ¬ n 33 1 = 0) (hbg : ¬ n 33 5 = 0) : jEff l d D a n g jy_M_sample jb_M_sample 7 (some .int) { frames := 3, cells := 0, slots := 0, locals := 73 } [.ref (a 33), .long (lN z), .int (nI k)] (fun v9 n2 g2 => some (.int (nI 0)) = v9 ∧ ku n 33 0 1 = n2 ∧ g = g2) := by
  refine je_I (by decide) (Nat.le_of_ble_eq_true rfl) ?_
  intro p e s m A below meth c ls Q X hP hS hl hQ
  have hl : lv_has ls 7 [(0, .ref (a 33)), (1, .long (lN z)), (3, .int (nI k))] := hl
  refine lv_aload_n X.1 X.2.1 jd_M_sample_0 rfl (lv_at hl 0 rfl) ?_
  refine lv_aload_n X.1 X.2.1 jd_M_sample_1 rfl (lv_at hl 0 rfl) ?_
  refine jg_M_77_33 X hP jd_M_sample_2 ?_
  refine kn_eq0 X.1 X.2.1 jd_M_sample_5 (tgt := 15) (by decide) (hB _ _) (fun h5 => absurd h5 (hs)) (fun h5 => ?_)
  refine lv_aload_n X.1 X.2.1 jd_M_sample_8 rfl (lv_at hl 0 rfl) ?_
  refine jg_M_104_33 X hP jd_M_sample_9 ?_
  refine kn_eq0 X.1 X.2.1 jd_M_sample_12 (tgt := 19) (by decide) (hB _ _) (fun h12 => absurd h12 (hbg)) (fun h12 => ?_)
  refine lv_iconst (v := nI 1) X.1 X.2.1 jd_M_sample_15 (by decide) ?_
  refine lv_goto X.1 X.2.1 jd_M_sample_16 (tgt := 36) (by decide) ?_
  refine jp_M_66_33 X hap hP hS jd_M_sample_36 (fun H locs hP hS => ?_)
  refine lv_aload_n X.1 X.2.1 jd_M_sample_39 rfl (lv_at hl 0 rfl) ?_
  refine jg_M_66_33 X hP jd_M_sample_40 ?_
  refine kn_to (y := 1) (rfl) ?_
  refine kn_le0 X.1 X.2.1 jd_M_sample_43 (tgt := 48) (by decide) (by omega) (fun h43 => absurd h43 (by omega)) (fun h43 => ?_)
  refine lv_iconst (v := nI 0) X.1 X.2.1 jd_M_sample_46 (by decide) ?_
  exact hQ _ _ _ _ _ _ _ (⟨rfl, rfl, rfl⟩) hP hS jd_M_sample_47

set_option maxHeartbeats 4000000 in
theorem c_M_start_1b (l : Launch) (d : Nat → Nat) (D : va_G) (a : Nat → Nat) (n : Nat → Nat → Nat) (g : Nat → Nat) (hap : ∀ i j : Nat, i < 52 → j < 52 → a i = a j → i = j) (hB : NB n) (k z : Nat) (hs : ¬ n 33 1 = 0) (hbg : ¬ n 33 5 = 0) : jEff l d D a n g jy_M_start jb_M_start 6 (some .int) { frames := 4, cells := 0, slots := 0, locals := 95 } [.ref (a 33), .int (nI k), .long (lN z)] (fun v9 n2 g2 => some (.int (nI 0)) = v9 ∧ ku n 33 0 1 = n2 ∧ g = g2) := by
  refine je_I (by decide) (Nat.le_of_ble_eq_true rfl) ?_
  intro p e s m A below meth c ls Q X hP hS hl hQ
  have hl : lv_has ls 6 [(0, .ref (a 33)), (1, .int (nI k)), (2, .long (lN z))] := hl
  refine lv_aload_n X.1 X.2.1 jd_M_start_0 rfl (lv_at hl 0 rfl) ?_
  refine lv_aload_n X.1 X.2.1 jd_M_start_1 rfl (lv_at hl 0 rfl) ?_
  refine jg_M_77_33 X hP jd_M_start_2 ?_
  refine kn_eq0 X.1 X.2.1 jd_M_start_5 (tgt := 15) (by decide) (hB _ _) (fun h5 => absurd h5 (hs)) (fun h5 => ?_)
  refine lv_aload_n X.1 X.2.1 jd_M_start_8 rfl (lv_at hl 0 rfl) ?_
  refine jg_M_104_33 X hP jd_M_start_9 ?_
  refine kn_eq0 X.1 X.2.1 jd_M_start_12 (tgt := 19) (by decide) (hB _ _) (fun h12 => absurd h12 (hbg)) (fun h12 => ?_)
  refine lv_iconst (v := nI 1) X.1 X.2.1 jd_M_start_15 (by decide) ?_
  refine lv_goto X.1 X.2.1 jd_M_start_16 (tgt := 36) (by decide) ?_
  refine jp_M_66_33 X hap hP hS jd_M_start_36 (fun H locs hP hS => ?_)
  refine lv_aload_n X.1 X.2.1 jd_M_start_39 rfl (lv_at hl 0 rfl) ?_
  refine jg_M_66_33 X hP jd_M_start_40 ?_
  refine kn_to (y := 1) (rfl) ?_
  refine kn_le0 X.1 X.2.1 jd_M_start_43 (tgt := 48) (by decide) (by omega) (fun h43 => absurd h43 (by omega)) (fun h43 => ?_)
  refine lv_iconst (v := nI 0) X.1 X.2.1 jd_M_start_46 (by decide) ?_
  exact hQ _ _ _ _ _ _ _ (⟨rfl, rfl, rfl⟩) hP hS jd_M_start_47

set_option maxHeartbeats 4000000 in
theorem c_M_sample_2 (l : Launch) (d : Nat → Nat) (D : va_G) (a : Nat → Nat) (n : Nat → Nat → Nat) (g : Nat → Nat) (hap : ∀ i j : Nat, i < 52 → j < 52 → a i = a j → i = j) (hB : NB n) (hs : ¬ n 33 1 = 0) (hbg : n 33 5 = 0) (hn : n 33 2 ≤ 128) (z k : Nat) (hk : k < 4294967296) (hbad : ¬ k ≤ n 33 2) : jEff l d D a n g jy_M_sample jb_M_sample 7 (some .int) { frames := 3, cells := 0, slots := 0, locals := 73 } [.ref (a 33), .long (lN z), .int (nI k)] (fun v9 n2 g2 => some (.int (nI 0)) = v9 ∧ ku n 33 0 2 = n2 ∧ g = g2) := by
  refine je_I (by decide) (Nat.le_of_ble_eq_true rfl) ?_
  intro p e s m A below meth c ls Q X hP hS hl hQ
  have hl : lv_has ls 7 [(0, .ref (a 33)), (1, .long (lN z)), (3, .int (nI k))] := hl
  refine lv_aload_n X.1 X.2.1 jd_M_sample_0 rfl (lv_at hl 0 rfl) ?_
  refine lv_aload_n X.1 X.2.1 jd_M_sample_1 rfl (lv_at hl 0 rfl) ?_
  refine jg_M_77_33 X hP jd_M_sample_2 ?_
  refine kn_eq0 X.1 X.2.1 jd_M_sample_5 (tgt := 15) (by decide) (hB _ _) (fun h5 => absurd h5 (hs)) (fun h5 => ?_)
  refine lv_aload_n X.1 X.2.1 jd_M_sample_8 rfl (lv_at hl 0 rfl) ?_
  refine jg_M_104_33 X hP jd_M_sample_9 ?_
  refine kn_eq0 X.1 X.2.1 jd_M_sample_12 (tgt := 19) (by decide) (hB _ _) (fun h12 => ?_) (fun h12 => absurd h12 (fun q => q hbg))
  refine lv_iload_n X.1 X.2.1 jd_M_sample_19 rfl (lv_at hl 2 rfl) ?_
  refine lv_iconst (v := nI 0) X.1 X.2.1 jd_M_sample_20 (by decide) ?_
  refine lv_aload_n X.1 X.2.1 jd_M_sample_21 rfl (lv_at hl 0 rfl) ?_
  refine jg_M_85_33 X hP jd_M_sample_22 ?_
  refine j_run (j_mkS X (c_M_within l d D a n g k 0 (n 33 2) (by omega) (by omega) (by omega)) jU_b (j_pp X hP) jm_714 jm_713 jm_6 jm_712 (show jOk jy_M_within 3 by unfold jOk; decide +kernel) (by decide) ⟨rfl, rfl⟩ hl.1 rfl (Nat.le_of_ble_eq_true rfl) ⟨Nat.zero_le _, Nat.zero_le _⟩ jd_M_sample_25) ?_
  refine W.eq (g2 := F0 m 28 ls [.int (nI (if 0 ≤ k ∧ k ≤ (n 33 2) then 1 else 0)), .ref (a 33)]) rfl ?_
  refine kn_to (y := 0) (if_neg (by omega)) ?_
  refine kn_ne0 X.1 X.2.1 jd_M_sample_28 (tgt := 35) (by decide) (by omega) (fun h28 => absurd h28 (by omega)) (fun h28 => ?_)
  refine lv_iconst (v := nI 2) X.1 X.2.1 jd_M_sample_31 (by decide) ?_
  refine lv_goto X.1 X.2.1 jd_M_sample_32 (tgt := 36) (by decide) ?_
  refine jp_M_66_33 X hap hP hS jd_M_sample_36 (fun H locs hP hS => ?_)
  refine lv_aload_n X.1 X.2.1 jd_M_sample_39 rfl (lv_at hl 0 rfl) ?_
  refine jg_M_66_33 X hP jd_M_sample_40 ?_
  refine kn_to (y := 2) (rfl) ?_
  refine kn_le0 X.1 X.2.1 jd_M_sample_43 (tgt := 48) (by decide) (by omega) (fun h43 => absurd h43 (by omega)) (fun h43 => ?_)
  refine lv_iconst (v := nI 0) X.1 X.2.1 jd_M_sample_46 (by decide) ?_
  exact hQ _ _ _ _ _ _ _ (⟨rfl, rfl, rfl⟩) hP hS jd_M_sample_47

set_option maxHeartbeats 4000000 in
theorem c_M_start_2 (l : Launch) (d : Nat → Nat) (D : va_G) (a : Nat → Nat) (n : Nat → Nat → Nat) (g : Nat → Nat) (hap : ∀ i j : Nat, i < 52 → j < 52 → a i = a j → i = j) (hB : NB n) (hs : ¬ n 33 1 = 0) (hbg : n 33 5 = 0) (hn : n 33 2 ≤ 128) (k z : Nat) (hk : k < 4294967296) (hbad : ¬ (4 ≤ k ∧ k ≤ n 33 2)) : jEff l d D a n g jy_M_start jb_M_start 6 (some .int) { frames := 4, cells := 0, slots := 0, locals := 95 } [.ref (a 33), .int (nI k), .long (lN z)] (fun v9 n2 g2 => some (.int (nI 0)) = v9 ∧ ku n 33 0 2 = n2 ∧ g = g2) := by
  refine je_I (by decide) (Nat.le_of_ble_eq_true rfl) ?_
  intro p e s m A below meth c ls Q X hP hS hl hQ
  have hl : lv_has ls 6 [(0, .ref (a 33)), (1, .int (nI k)), (2, .long (lN z))] := hl
  refine lv_aload_n X.1 X.2.1 jd_M_start_0 rfl (lv_at hl 0 rfl) ?_
  refine lv_aload_n X.1 X.2.1 jd_M_start_1 rfl (lv_at hl 0 rfl) ?_
  refine jg_M_77_33 X hP jd_M_start_2 ?_
  refine kn_eq0 X.1 X.2.1 jd_M_start_5 (tgt := 15) (by decide) (hB _ _) (fun h5 => absurd h5 (hs)) (fun h5 => ?_)
  refine lv_aload_n X.1 X.2.1 jd_M_start_8 rfl (lv_at hl 0 rfl) ?_
  refine jg_M_104_33 X hP jd_M_start_9 ?_
  refine kn_eq0 X.1 X.2.1 jd_M_start_12 (tgt := 19) (by decide) (hB _ _) (fun h12 => ?_) (fun h12 => absurd h12 (fun q => q hbg))
  refine lv_iload_n X.1 X.2.1 jd_M_start_19 rfl (lv_at hl 1 rfl) ?_
  refine lv_iconst (v := nI 4) X.1 X.2.1 jd_M_start_20 (by decide) ?_
  refine lv_aload_n X.1 X.2.1 jd_M_start_21 rfl (lv_at hl 0 rfl) ?_
  refine jg_M_85_33 X hP jd_M_start_22 ?_
  refine j_run (j_mkS X (c_M_within l d D a n g k 4 (n 33 2) (by omega) (by omega) (by omega)) jU_b (j_pp X hP) jm_714 jm_713 jm_6 jm_712 (show jOk jy_M_within 3 by unfold jOk; decide +kernel) (by decide) ⟨rfl, rfl⟩ hl.1 rfl (Nat.le_of_ble_eq_true rfl) ⟨Nat.zero_le _, Nat.zero_le _⟩ jd_M_start_25) ?_
  refine W.eq (g2 := F0 m 28 ls [.int (nI (if 4 ≤ k ∧ k ≤ (n 33 2) then 1 else 0)), .ref (a 33)]) rfl ?_
  refine kn_to (y := 0) (if_neg (by omega)) ?_
  refine kn_ne0 X.1 X.2.1 jd_M_start_28 (tgt := 35) (by decide) (by omega) (fun h28 => absurd h28 (by omega)) (fun h28 => ?_)
  refine lv_iconst (v := nI 2) X.1 X.2.1 jd_M_start_31 (by decide) ?_
  refine lv_goto X.1 X.2.1 jd_M_start_32 (tgt := 36) (by decide) ?_
  refine jp_M_66_33 X hap hP hS jd_M_start_36 (fun H locs hP hS => ?_)
  refine lv_aload_n X.1 X.2.1 jd_M_start_39 rfl (lv_at hl 0 rfl) ?_
  refine jg_M_66_33 X hP jd_M_start_40 ?_
  refine kn_to (y := 2) (rfl) ?_
  refine kn_le0 X.1 X.2.1 jd_M_start_43 (tgt := 48) (by decide) (by omega) (fun h43 => absurd h43 (by omega)) (fun h43 => ?_)
  refine lv_iconst (v := nI 0) X.1 X.2.1 jd_M_start_46 (by decide) ?_
  exact hQ _ _ _ _ _ _ _ (⟨rfl, rfl, rfl⟩) hP hS jd_M_start_47

set_option maxHeartbeats 4000000 in
theorem c_M_sample (l : Launch) (d : Nat → Nat) (D : va_G) (a : Nat → Nat) (n : Nat → Nat → Nat) (g : Nat → Nat) (hap : ∀ i j : Nat, i < 52 → j < 52 → a i = a j → i = j) (hB : NB n) (hs : ¬ n 33 1 = 0) (hbg : n 33 5 = 0) (hn : n 33 2 ≤ 128) (z k : Nat) (hk : k ≤ n 33 2) (hsh : ∀ i, i < n 33 2 → (shuF (ku n 33 0 0) 39 z (n 33 2)) 39 i < 128) : jEff l d D a n g jy_M_sample jb_M_sample 7 (some .int) { frames := 3, cells := 0, slots := 0, locals := 73 } [.ref (a 33), .long (lN z), .int (nI k)] (fun v9 n2 g2 => some (.int (nI ((smM (fiF (shuF (ku n 33 0 0) 39 z (n 33 2)) 40 0 128) k).2))) = v9 ∧ (ku (ku (ku (lvM (smM (fiF (shuF (ku n 33 0 0) 39 z (n 33 2)) 40 0 128) k).1 (n 33 2)).1 33 2 (lvM (smM (fiF (shuF (ku n 33 0 0) 39 z (n 33 2)) 40 0 128) k).1 (n 33 2)).2) 33 3 (n 33 3 + k)) 33 4 (n 33 4 + (smM (fiF (shuF (ku n 33 0 0) 39 z (n 33 2)) 40 0 128) k).2)) = n2 ∧ (kg g 1 (shuS (ku n 33 0 0) 39 z (n 33 2))) = g2) := by
  refine je_I (by decide) (Nat.le_of_ble_eq_true rfl) ?_
  intro p e s m A below meth c ls Q X hP hS hl hQ
  have hl : lv_has ls 7 [(0, .ref (a 33)), (1, .long (lN z)), (3, .int (nI k))] := hl
  refine lv_aload_n X.1 X.2.1 jd_M_sample_0 rfl (lv_at hl 0 rfl) ?_
  refine lv_aload_n X.1 X.2.1 jd_M_sample_1 rfl (lv_at hl 0 rfl) ?_
  refine jg_M_77_33 X hP jd_M_sample_2 ?_
  refine kn_eq0 X.1 X.2.1 jd_M_sample_5 (tgt := 15) (by decide) (hB _ _) (fun h5 => absurd h5 (hs)) (fun h5 => ?_)
  refine lv_aload_n X.1 X.2.1 jd_M_sample_8 rfl (lv_at hl 0 rfl) ?_
  refine jg_M_104_33 X hP jd_M_sample_9 ?_
  refine kn_eq0 X.1 X.2.1 jd_M_sample_12 (tgt := 19) (by decide) (hB _ _) (fun h12 => ?_) (fun h12 => absurd h12 (fun q => q hbg))
  refine lv_iload_n X.1 X.2.1 jd_M_sample_19 rfl (lv_at hl 2 rfl) ?_
  refine lv_iconst (v := nI 0) X.1 X.2.1 jd_M_sample_20 (by decide) ?_
  refine lv_aload_n X.1 X.2.1 jd_M_sample_21 rfl (lv_at hl 0 rfl) ?_
  refine jg_M_85_33 X hP jd_M_sample_22 ?_
  refine j_run (j_mkS X (c_M_within l d D a n g k 0 (n 33 2) (by omega) (by omega) (by omega)) jU_b (j_pp X hP) jm_714 jm_713 jm_6 jm_712 (show jOk jy_M_within 3 by unfold jOk; decide +kernel) (by decide) ⟨rfl, rfl⟩ hl.1 rfl (Nat.le_of_ble_eq_true rfl) ⟨Nat.zero_le _, Nat.zero_le _⟩ jd_M_sample_25) ?_
  refine W.eq (g2 := F0 m 28 ls [.int (nI (if 0 ≤ k ∧ k ≤ (n 33 2) then 1 else 0)), .ref (a 33)]) rfl ?_
  refine kn_to (y := 1) (if_pos (by omega)) ?_
  refine kn_ne0 X.1 X.2.1 jd_M_sample_28 (tgt := 35) (by decide) (by omega) (fun h28 => ?_) (fun h28 => absurd h28 (by omega))
  refine lv_iconst (v := nI 0) X.1 X.2.1 jd_M_sample_35 (by decide) ?_
  refine jp_M_66_33 X hap hP hS jd_M_sample_36 (fun H locs hP hS => ?_)
  refine lv_aload_n X.1 X.2.1 jd_M_sample_39 rfl (lv_at hl 0 rfl) ?_
  refine jg_M_66_33 X hP jd_M_sample_40 ?_
  refine kn_to (y := 0) (rfl) ?_
  refine kn_le0 X.1 X.2.1 jd_M_sample_43 (tgt := 48) (by decide) (by omega) (fun h43 => ?_) (fun h43 => absurd h43 (by omega))
  refine lv_aload_n X.1 X.2.1 jd_M_sample_48 rfl (lv_at hl 0 rfl) ?_
  refine lv_aload_n X.1 X.2.1 jd_M_sample_49 rfl (lv_at hl 0 rfl) ?_
  refine jg_M_85_33 X hP jd_M_sample_50 ?_
  refine kn_to (y := n 33 2) (rfl) ?_
  refine lv_lload_n X.1 X.2.1 jd_M_sample_53 rfl (lv_at hl 1 rfl) ?_
  refine j_rune (j_mkV X hP (c_M_shuffleF l d D a (ku n 33 0 0) g hap (n 33 2) z hn _) jU_bs (j_pe X hP) jm_734 jm_733 js_40 jm_6 jm_731 (by decide) rfl rfl (show jOk jy_M_shuffle 2 by unfold jOk; decide +kernel) (by decide) ⟨rfl, rfl⟩ hl.1 rfl (Nat.le_of_ble_eq_true rfl) ⟨Nat.zero_le _, Nat.zero_le _⟩ jd_M_sample_54) hS (fun v54 n54 g54 H locs h54 hP hS => ?_)
  obtain ⟨rfl, rfl, rfl⟩ := h54
  refine W.eq (g2 := F0 m 57 ls []) rfl ?_
  refine lv_iconst (v := nI 0) X.1 X.2.1 jd_M_sample_57 (by decide) ?_
  refine lv_istore X.1 X.2.1 jd_M_sample_58 hl (by decide) rfl (fun ls hl => ?_)
  have hl : lv_has ls 7 [(4, .int (nI 0)), (0, .ref (a 33)), (1, .long (lN z)), (3, .int (nI k))] := hl
  have loop60 : ∀ (r i : Nat) (H : Heap) (locs : List Loc) (ls : Array Slot), i + r = 128 → va_P D jCl (jW d a (fiF (shuF (ku n 33 0 0) 39 z (n 33 2)) 40 0 i) (kg g 1 (shuS (ku n 33 0 0) 39 z (n 33 2)))) H → va_S (jAa a s.heap.size) s.heap H locs → lv_has ls 7 [(4, .int (nI i)), (0, .ref (a 33)), (1, .long (lN z)), (3, .int (nI k))] → W p l e { frames := 3, cells := 0, slots := 0, locals := 73 } s m A below meth c H locs 0 0 Q (F0 m 60 ls []) := by
    intro r
    induction r with
    | zero => 
      intro i H locs ls hi hP hS hl
      obtain rfl : 128 = i := by omega
      refine lv_iload X.1 X.2.1 jd_M_sample_60 (lv_at hl 0 rfl) ?_
      refine lv_sipush (v := nI 128) X.1 X.2.1 jd_M_sample_62 (by decide) ?_
      refine kn_cge X.1 X.2.1 jd_M_sample_65 (tgt := 82) (by decide) (by omega) (fun h65 => ?_) (fun h65 => absurd h65 (by omega))
      have hNB : NB (fiF (shuF (ku n 33 0 0) 39 z (n 33 2)) 40 0 128) := NB_fiF (NB_shuF (NB_ku hB (by decide)) (by omega)) (by decide) 128
      refine lv_iconst (v := nI 0) X.1 X.2.1 jd_M_sample_82 (by decide) ?_
      refine lv_istore X.1 X.2.1 jd_M_sample_83 hl (by decide) rfl (fun ls hl => ?_)
      have hl : lv_has ls 7 [(4, .int (nI 0)), (0, .ref (a 33)), (1, .long (lN z)), (3, .int (nI k))] := hl
      refine lv_iconst (v := nI 0) X.1 X.2.1 jd_M_sample_85 (by decide) ?_
      refine lv_istore X.1 X.2.1 jd_M_sample_86 hl (by decide) rfl (fun ls hl => ?_)
      have hl : lv_has ls 7 [(5, .int (nI 0)), (4, .int (nI 0)), (0, .ref (a 33)), (1, .long (lN z)), (3, .int (nI k))] := hl
      have loopS : ∀ (rS i : Nat) (H : Heap) (locs : List Loc) (ls : Array Slot), i + rS = k → va_P D jCl (jW d a ((smM (fiF (shuF (ku n 33 0 0) 39 z (n 33 2)) 40 0 128) i).1) (kg g 1 (shuS (ku n 33 0 0) 39 z (n 33 2)))) H → va_S (jAa a s.heap.size) s.heap H locs → lv_has ls 7 [(5, .int (nI i)), (4, .int (nI ((smM (fiF (shuF (ku n 33 0 0) 39 z (n 33 2)) 40 0 128) i).2))), (0, .ref (a 33)), (1, .long (lN z)), (3, .int (nI k))] → W p l e { frames := 3, cells := 0, slots := 0, locals := 73 } s m A below meth c H locs 0 0 Q (F0 m 88 ls []) := by
        intro rS
        induction rS with
        | zero => 
          intro i H locs ls hi hP hS hl
          obtain rfl : k = i := by omega
          refine lv_iload X.1 X.2.1 jd_M_sample_88 (lv_at hl 0 rfl) ?_
          refine lv_iload_n X.1 X.2.1 jd_M_sample_90 rfl (lv_at hl 4 rfl) ?_
          refine kn_cge X.1 X.2.1 jd_M_sample_91 (tgt := 155) (by decide) (by omega) (fun h91 => ?_) (fun h91 => absurd h91 (by omega))
          refine lv_iconst (v := nI 0) X.1 X.2.1 jd_M_sample_155 (by decide) ?_
          refine lv_istore X.1 X.2.1 jd_M_sample_156 hl (by decide) rfl (fun ls hl => ?_)
          have hl : lv_has ls 7 [(5, .int (nI 0)), (4, .int (nI ((smM (fiF (shuF (ku n 33 0 0) 39 z (n 33 2)) 40 0 128) k).2))), (0, .ref (a 33)), (1, .long (lN z)), (3, .int (nI k))] := hl
          refine lv_iconst (v := nI 0) X.1 X.2.1 jd_M_sample_158 (by decide) ?_
          refine lv_istore X.1 X.2.1 jd_M_sample_159 hl (by decide) rfl (fun ls hl => ?_)
          have hl : lv_has ls 7 [(6, .int (nI 0)), (5, .int (nI 0)), (4, .int (nI ((smM (fiF (shuF (ku n 33 0 0) 39 z (n 33 2)) 40 0 128) k).2))), (0, .ref (a 33)), (1, .long (lN z)), (3, .int (nI k))] := hl
          have loopL : ∀ (rL i : Nat) (H : Heap) (locs : List Loc) (ls : Array Slot), i + rL = n 33 2 → va_P D jCl (jW d a ((lvM (smM (fiF (shuF (ku n 33 0 0) 39 z (n 33 2)) 40 0 128) k).1 i).1) (kg g 1 (shuS (ku n 33 0 0) 39 z (n 33 2)))) H → va_S (jAa a s.heap.size) s.heap H locs → lv_has ls 7 [(6, .int (nI i)), (5, .int (nI ((lvM (smM (fiF (shuF (ku n 33 0 0) 39 z (n 33 2)) 40 0 128) k).1 i).2))), (4, .int (nI ((smM (fiF (shuF (ku n 33 0 0) 39 z (n 33 2)) 40 0 128) k).2))), (0, .ref (a 33)), (1, .long (lN z)), (3, .int (nI k))] → W p l e { frames := 3, cells := 0, slots := 0, locals := 73 } s m A below meth c H locs 0 0 Q (F0 m 161 ls []) := by
            intro rL
            induction rL with
            | zero => 
              intro i H locs ls hi hP hS hl
              obtain rfl : n 33 2 = i := by omega
              refine lv_iload X.1 X.2.1 jd_M_sample_161 (lv_at hl 0 rfl) ?_
              refine lv_aload_n X.1 X.2.1 jd_M_sample_163 rfl (lv_at hl 3 rfl) ?_
              refine jg_M_85_33 X hP jd_M_sample_164 ?_
              refine kn_to (y := n 33 2) (by rw [lvM_o (by decide), smM_o (by decide), fiF_o (by decide), shuF_o (by decide)]; rfl) ?_
              refine kn_cge X.1 X.2.1 jd_M_sample_167 (tgt := 225) (by decide) (by omega) (fun h167 => ?_) (fun h167 => absurd h167 (by omega))
              refine lv_aload_n X.1 X.2.1 jd_M_sample_225 rfl (lv_at hl 3 rfl) ?_
              refine lv_iload X.1 X.2.1 jd_M_sample_226 (lv_at hl 1 rfl) ?_
              refine jp_M_85_33 X hap hP hS jd_M_sample_228 (fun H locs hP hS => ?_)
              refine lv_aload_n X.1 X.2.1 jd_M_sample_231 rfl (lv_at hl 3 rfl) ?_
              refine lv_aload_n X.1 X.2.1 jd_M_sample_232 rfl (lv_at hl 3 rfl) ?_
              refine jg_M_111_33 X hP jd_M_sample_233 ?_
              refine kn_to (y := n 33 3) (by show ((lvM (smM (fiF (shuF (ku n 33 0 0) 39 z (n 33 2)) 40 0 128) k).1 (n 33 2)).1) 33 3 = _; rw [lvM_o (by decide), smM_o (by decide), fiF_o (by decide), shuF_o (by decide)]; rfl) ?_
              refine lv_iload_n X.1 X.2.1 jd_M_sample_236 rfl (lv_at hl 5 rfl) ?_
              refine kn_iadd X.1 X.2.1 jd_M_sample_237 ?_
              refine jp_M_111_33 X hap hP hS jd_M_sample_238 (fun H locs hP hS => ?_)
              refine lv_aload_n X.1 X.2.1 jd_M_sample_241 rfl (lv_at hl 3 rfl) ?_
              refine lv_aload_n X.1 X.2.1 jd_M_sample_242 rfl (lv_at hl 3 rfl) ?_
              refine jg_M_114_33 X hP jd_M_sample_243 ?_
              refine kn_to (y := n 33 4) (by show ((lvM (smM (fiF (shuF (ku n 33 0 0) 39 z (n 33 2)) 40 0 128) k).1 (n 33 2)).1) 33 4 = _; rw [lvM_o (by decide), smM_o (by decide), fiF_o (by decide), shuF_o (by decide)]; rfl) ?_
              refine lv_iload X.1 X.2.1 jd_M_sample_246 (lv_at hl 2 rfl) ?_
              refine kn_iadd X.1 X.2.1 jd_M_sample_248 ?_
              refine jp_M_114_33 X hap hP hS jd_M_sample_249 (fun H locs hP hS => ?_)
              refine lv_iload X.1 X.2.1 jd_M_sample_252 (lv_at hl 2 rfl) ?_
              exact hQ _ _ _ _ _ _ _ (⟨rfl, rfl, rfl⟩) hP hS jd_M_sample_254
            | succ rL ihrL => 
              intro i H locs ls hi hP hS hl
              refine lv_iload X.1 X.2.1 jd_M_sample_161 (lv_at hl 0 rfl) ?_
              refine lv_aload_n X.1 X.2.1 jd_M_sample_163 rfl (lv_at hl 3 rfl) ?_
              refine jg_M_85_33 X hP jd_M_sample_164 ?_
              refine kn_to (y := n 33 2) (by rw [lvM_o (by decide), smM_o (by decide), fiF_o (by decide), shuF_o (by decide)]; rfl) ?_
              refine kn_cge X.1 X.2.1 jd_M_sample_167 (tgt := 225) (by decide) (by omega) (fun h167 => absurd h167 (by omega)) (fun h167 => ?_)
              have hle := lvM_le (smM (fiF (shuF (ku n 33 0 0) 39 z (n 33 2)) 40 0 128) k).1 i
              refine lv_aload_n X.1 X.2.1 jd_M_sample_170 rfl (lv_at hl 3 rfl) ?_
              refine jg_M_29_33 X hP jd_M_sample_171 ?_
              refine lv_iload X.1 X.2.1 jd_M_sample_174 (lv_at hl 0 rfl) ?_
              refine j_zald X hP 40 i (by decide) (show i < 128 from by omega) (by decide) jd_M_sample_176 ?_
              refine kn_ne0 X.1 X.2.1 jd_M_sample_177 (tgt := 219) (by decide) ((NB_lvM (NB_smM hNB k) i) _ _) (fun h177 => ?_) (fun h177 => ?_)
              · skip
                refine lv_iinc (k := 0) (v := nI (i + 1)) X.1 X.2.1 jd_M_sample_219 hl rfl (kn_inc _) (by decide) rfl (fun ls hl => ?_)
                have hl : lv_has ls 7 [(6, .int (nI (i + 1))), (5, .int (nI ((lvM (smM (fiF (shuF (ku n 33 0 0) 39 z (n 33 2)) 40 0 128) k).1 i).2))), (4, .int (nI ((smM (fiF (shuF (ku n 33 0 0) 39 z (n 33 2)) 40 0 128) k).2))), (0, .ref (a 33)), (1, .long (lN z)), (3, .int (nI k))] := hl
                refine lv_goto X.1 X.2.1 jd_M_sample_222 (tgt := 161) (by decide) ?_
                have hP : va_P D jCl (jW d a ((lvM (smM (fiF (shuF (ku n 33 0 0) 39 z (n 33 2)) 40 0 128) k).1 (i + 1)).1) (kg g 1 (shuS (ku n 33 0 0) 39 z (n 33 2)))) H := by first | exact hP | (simp only [lvM]; first | (rw [if_pos (by first | exact h177 | omega)]; exact hP) | (rw [if_neg (by first | exact h177 | omega)]; exact hP))
                have hl : lv_has ls 7 [(6, .int (nI (i + 1))), (5, .int (nI ((lvM (smM (fiF (shuF (ku n 33 0 0) 39 z (n 33 2)) 40 0 128) k).1 (i + 1)).2))), (4, .int (nI ((smM (fiF (shuF (ku n 33 0 0) 39 z (n 33 2)) 40 0 128) k).2))), (0, .ref (a 33)), (1, .long (lN z)), (3, .int (nI k))] := by first | exact lv_sub hl [0, 1, 2, 3, 4, 5] rfl | (simp only [lvM]; first | (rw [if_pos (by first | exact h177 | omega)]; exact lv_sub hl [0, 1, 2, 3, 4, 5] rfl) | (rw [if_neg (by first | exact h177 | omega)]; exact lv_sub hl [0, 1, 2, 3, 4, 5] rfl))
                exact ihrL (i + 1) H locs ls (by omega) hP hS hl
              · skip
                refine lv_aload_n X.1 X.2.1 jd_M_sample_180 rfl (lv_at hl 3 rfl) ?_
                refine jg_M_23_33 X hP jd_M_sample_181 ?_
                refine lv_iload X.1 X.2.1 jd_M_sample_184 (lv_at hl 1 rfl) ?_
                refine lv_aload_n X.1 X.2.1 jd_M_sample_186 rfl (lv_at hl 3 rfl) ?_
                refine jg_M_23_33 X hP jd_M_sample_187 ?_
                refine lv_iload X.1 X.2.1 jd_M_sample_190 (lv_at hl 0 rfl) ?_
                refine j_ald X hP 38 i (by decide) (show i < 256 from by omega) (by decide) jd_M_sample_192 ?_
                refine j_ast X hap hP hS 38 ((lvM (smM (fiF (shuF (ku n 33 0 0) 39 z (n 33 2)) 40 0 128) k).1 i).2) (((lvM (smM (fiF (shuF (ku n 33 0 0) 39 z (n 33 2)) 40 0 128) k).1 i).1) 38 i) (by decide) (show (lvM (smM (fiF (shuF (ku n 33 0 0) 39 z (n 33 2)) 40 0 128) k).1 i).2 < 256 from by omega) (by decide) jd_M_sample_193 (fun H locs hP hS => ?_)
                refine lv_aload_n X.1 X.2.1 jd_M_sample_194 rfl (lv_at hl 3 rfl) ?_
                refine jg_M_23_33 X hP jd_M_sample_195 ?_
                refine lv_sipush (v := nI 128) X.1 X.2.1 jd_M_sample_198 (by decide) ?_
                refine lv_iload X.1 X.2.1 jd_M_sample_201 (lv_at hl 1 rfl) ?_
                refine kn_iadd X.1 X.2.1 jd_M_sample_203 ?_
                refine lv_aload_n X.1 X.2.1 jd_M_sample_204 rfl (lv_at hl 3 rfl) ?_
                refine jg_M_23_33 X hP jd_M_sample_205 ?_
                refine lv_sipush (v := nI 128) X.1 X.2.1 jd_M_sample_208 (by decide) ?_
                refine lv_iload X.1 X.2.1 jd_M_sample_211 (lv_at hl 0 rfl) ?_
                refine kn_iadd X.1 X.2.1 jd_M_sample_213 ?_
                refine j_ald X hP 38 (128 + i) (by decide) (show (128 + i) < 256 from by omega) (by decide) jd_M_sample_214 ?_
                refine j_ast X hap hP hS 38 (128 + (lvM (smM (fiF (shuF (ku n 33 0 0) 39 z (n 33 2)) 40 0 128) k).1 i).2) ((ku ((lvM (smM (fiF (shuF (ku n 33 0 0) 39 z (n 33 2)) 40 0 128) k).1 i).1) 38 ((lvM (smM (fiF (shuF (ku n 33 0 0) 39 z (n 33 2)) 40 0 128) k).1 i).2) (((lvM (smM (fiF (shuF (ku n 33 0 0) 39 z (n 33 2)) 40 0 128) k).1 i).1) 38 i)) 38 (128 + i)) (by decide) (show (128 + (lvM (smM (fiF (shuF (ku n 33 0 0) 39 z (n 33 2)) 40 0 128) k).1 i).2) < 256 from by omega) (by decide) jd_M_sample_215 (fun H locs hP hS => ?_)
                refine lv_iinc (k := 1) (v := nI ((lvM (smM (fiF (shuF (ku n 33 0 0) 39 z (n 33 2)) 40 0 128) k).1 i).2 + 1)) X.1 X.2.1 jd_M_sample_216 hl rfl (kn_inc _) (by decide) rfl (fun ls hl => ?_)
                have hl : lv_has ls 7 [(5, .int (nI ((lvM (smM (fiF (shuF (ku n 33 0 0) 39 z (n 33 2)) 40 0 128) k).1 i).2 + 1))), (6, .int (nI i)), (4, .int (nI ((smM (fiF (shuF (ku n 33 0 0) 39 z (n 33 2)) 40 0 128) k).2))), (0, .ref (a 33)), (1, .long (lN z)), (3, .int (nI k))] := hl
                refine lv_iinc (k := 1) (v := nI (i + 1)) X.1 X.2.1 jd_M_sample_219 hl rfl (kn_inc _) (by decide) rfl (fun ls hl => ?_)
                have hl : lv_has ls 7 [(6, .int (nI (i + 1))), (5, .int (nI ((lvM (smM (fiF (shuF (ku n 33 0 0) 39 z (n 33 2)) 40 0 128) k).1 i).2 + 1))), (4, .int (nI ((smM (fiF (shuF (ku n 33 0 0) 39 z (n 33 2)) 40 0 128) k).2))), (0, .ref (a 33)), (1, .long (lN z)), (3, .int (nI k))] := hl
                refine lv_goto X.1 X.2.1 jd_M_sample_222 (tgt := 161) (by decide) ?_
                have hP : va_P D jCl (jW d a ((lvM (smM (fiF (shuF (ku n 33 0 0) 39 z (n 33 2)) 40 0 128) k).1 (i + 1)).1) (kg g 1 (shuS (ku n 33 0 0) 39 z (n 33 2)))) H := by first | exact hP | (simp only [lvM]; first | (rw [if_pos (by first | exact h177 | omega)]; exact hP) | (rw [if_neg (by first | exact h177 | omega)]; exact hP))
                have hl : lv_has ls 7 [(6, .int (nI (i + 1))), (5, .int (nI ((lvM (smM (fiF (shuF (ku n 33 0 0) 39 z (n 33 2)) 40 0 128) k).1 (i + 1)).2))), (4, .int (nI ((smM (fiF (shuF (ku n 33 0 0) 39 z (n 33 2)) 40 0 128) k).2))), (0, .ref (a 33)), (1, .long (lN z)), (3, .int (nI k))] := by first | exact lv_sub hl [0, 1, 2, 3, 4, 5] rfl | (simp only [lvM]; first | (rw [if_pos (by first | exact h177 | omega)]; exact lv_sub hl [0, 1, 2, 3, 4, 5] rfl) | (rw [if_neg (by first | exact h177 | omega)]; exact lv_sub hl [0, 1, 2, 3, 4, 5] rfl))
                exact ihrL (i + 1) H locs ls (by omega) hP hS hl
          have hl : lv_has ls 7 [(6, .int (nI 0)), (5, .int (nI ((lvM (smM (fiF (shuF (ku n 33 0 0) 39 z (n 33 2)) 40 0 128) k).1 0).2))), (4, .int (nI ((smM (fiF (shuF (ku n 33 0 0) 39 z (n 33 2)) 40 0 128) k).2))), (0, .ref (a 33)), (1, .long (lN z)), (3, .int (nI k))] := lv_sub hl [0, 1, 2, 3, 4, 5] rfl
          exact loopL (n 33 2) 0 H locs ls (by omega) hP hS hl
        | succ rS ihrS => 
          intro i H locs ls hi hP hS hl
          refine lv_iload X.1 X.2.1 jd_M_sample_88 (lv_at hl 0 rfl) ?_
          refine lv_iload_n X.1 X.2.1 jd_M_sample_90 rfl (lv_at hl 4 rfl) ?_
          refine kn_cge X.1 X.2.1 jd_M_sample_91 (tgt := 155) (by decide) (by omega) (fun h91 => absurd h91 (by omega)) (fun h91 => ?_)
          refine lv_aload_n X.1 X.2.1 jd_M_sample_94 rfl (lv_at hl 2 rfl) ?_
          refine jg_M_29_33 X hP jd_M_sample_95 ?_
          refine lv_aload_n X.1 X.2.1 jd_M_sample_98 rfl (lv_at hl 2 rfl) ?_
          refine jg_M_26_33 X hP jd_M_sample_99 ?_
          refine lv_iload X.1 X.2.1 jd_M_sample_102 (lv_at hl 0 rfl) ?_
          refine j_ald X hP 39 i (by decide) (show i < 128 from by omega) (by decide) jd_M_sample_104 ?_
          refine lv_iconst (v := nI 1) X.1 X.2.1 jd_M_sample_105 (by decide) ?_
          refine j_zast X hap hP hS 40 (((smM (fiF (shuF (ku n 33 0 0) 39 z (n 33 2)) 40 0 128) i).1) 39 i) 1 (by decide) (show (((smM (fiF (shuF (ku n 33 0 0) 39 z (n 33 2)) 40 0 128) i).1) 39 i) < 128 from by rw [smM_o (by decide), fiF_o (by decide)]; exact hsh _ (by omega)) (by decide) (by decide) jd_M_sample_106 (fun H locs hP hS => ?_)
          refine lv_aload_n X.1 X.2.1 jd_M_sample_107 rfl (lv_at hl 2 rfl) ?_
          refine jg_M_23_33 X hP jd_M_sample_108 ?_
          refine lv_aload_n X.1 X.2.1 jd_M_sample_111 rfl (lv_at hl 2 rfl) ?_
          refine jg_M_26_33 X hP jd_M_sample_112 ?_
          refine lv_iload X.1 X.2.1 jd_M_sample_115 (lv_at hl 0 rfl) ?_
          refine j_ald X hP 39 i (by decide) (show i < 128 from by omega) (by decide) jd_M_sample_117 ?_
          refine kn_to (y := (smM (fiF (shuF (ku n 33 0 0) 39 z (n 33 2)) 40 0 128) i).1 39 i) (rfl) ?_
          refine j_ald X hP 38 ((smM (fiF (shuF (ku n 33 0 0) 39 z (n 33 2)) 40 0 128) i).1 39 i) (by decide) (show ((smM (fiF (shuF (ku n 33 0 0) 39 z (n 33 2)) 40 0 128) i).1 39 i) < 256 from by have q : (smM (fiF (shuF (ku n 33 0 0) 39 z (n 33 2)) 40 0 128) i).1 39 i < 128 := (by rw [smM_o (by decide), fiF_o (by decide)]; exact hsh _ (by omega)); first | exact q | omega) (by decide) jd_M_sample_118 ?_
          refine kn_to (y := (smM (fiF (shuF (ku n 33 0 0) 39 z (n 33 2)) 40 0 128) i).1 38 ((smM (fiF (shuF (ku n 33 0 0) 39 z (n 33 2)) 40 0 128) i).1 39 i)) (rfl) ?_
          refine lv_aload_n X.1 X.2.1 jd_M_sample_119 rfl (lv_at hl 2 rfl) ?_
          refine jg_M_23_33 X hP jd_M_sample_120 ?_
          refine lv_sipush (v := nI 128) X.1 X.2.1 jd_M_sample_123 (by decide) ?_
          refine lv_aload_n X.1 X.2.1 jd_M_sample_126 rfl (lv_at hl 2 rfl) ?_
          refine jg_M_26_33 X hP jd_M_sample_127 ?_
          refine lv_iload X.1 X.2.1 jd_M_sample_130 (lv_at hl 0 rfl) ?_
          refine j_ald X hP 39 i (by decide) (show i < 128 from by omega) (by decide) jd_M_sample_132 ?_
          refine kn_to (y := (smM (fiF (shuF (ku n 33 0 0) 39 z (n 33 2)) 40 0 128) i).1 39 i) (rfl) ?_
          refine kn_iadd X.1 X.2.1 jd_M_sample_133 ?_
          refine j_ald X hP 38 (128 + ((smM (fiF (shuF (ku n 33 0 0) 39 z (n 33 2)) 40 0 128) i).1 39 i)) (by decide) (show (128 + ((smM (fiF (shuF (ku n 33 0 0) 39 z (n 33 2)) 40 0 128) i).1 39 i)) < 256 from by have q : (smM (fiF (shuF (ku n 33 0 0) 39 z (n 33 2)) 40 0 128) i).1 39 i < 128 := (by rw [smM_o (by decide), fiF_o (by decide)]; exact hsh _ (by omega)); first | exact q | omega) (by decide) jd_M_sample_134 ?_
          refine kn_to (y := (smM (fiF (shuF (ku n 33 0 0) 39 z (n 33 2)) 40 0 128) i).1 38 (128 + (smM (fiF (shuF (ku n 33 0 0) 39 z (n 33 2)) 40 0 128) i).1 39 i)) (rfl) ?_
          refine kn_ceq X.1 X.2.1 jd_M_sample_135 (tgt := 145) (by decide) (⟨(NB_smM hNB i) _ _, (NB_smM hNB i) _ _⟩) (fun h135 => ?_) (fun h135 => ?_)
          · skip
            refine lv_iload X.1 X.2.1 jd_M_sample_145 (lv_at hl 1 rfl) ?_
            refine lv_istore X.1 X.2.1 jd_M_sample_147 hl (by decide) rfl (fun ls hl => ?_)
            have hl : lv_has ls 7 [(4, .int (nI ((smM (fiF (shuF (ku n 33 0 0) 39 z (n 33 2)) 40 0 128) i).2))), (5, .int (nI i)), (0, .ref (a 33)), (1, .long (lN z)), (3, .int (nI k))] := hl
            refine lv_iinc (k := 1) (v := nI (i + 1)) X.1 X.2.1 jd_M_sample_149 hl rfl (kn_inc _) (by decide) rfl (fun ls hl => ?_)
            have hl : lv_has ls 7 [(5, .int (nI (i + 1))), (4, .int (nI ((smM (fiF (shuF (ku n 33 0 0) 39 z (n 33 2)) 40 0 128) i).2))), (0, .ref (a 33)), (1, .long (lN z)), (3, .int (nI k))] := hl
            refine lv_goto X.1 X.2.1 jd_M_sample_152 (tgt := 88) (by decide) ?_
            have hP : va_P D jCl (jW d a ((smM (fiF (shuF (ku n 33 0 0) 39 z (n 33 2)) 40 0 128) (i + 1)).1) (kg g 1 (shuS (ku n 33 0 0) 39 z (n 33 2)))) H := by first | exact hP | (simp only [smM]; first | (rw [if_pos (by first | exact h135 | omega)]; exact hP) | (rw [if_neg (by first | exact h135 | omega)]; exact hP))
            have hl : lv_has ls 7 [(5, .int (nI (i + 1))), (4, .int (nI ((smM (fiF (shuF (ku n 33 0 0) 39 z (n 33 2)) 40 0 128) (i + 1)).2))), (0, .ref (a 33)), (1, .long (lN z)), (3, .int (nI k))] := by first | exact lv_sub hl [0, 1, 2, 3, 4] rfl | (simp only [smM]; first | (rw [if_pos (by first | exact h135 | omega)]; exact lv_sub hl [0, 1, 2, 3, 4] rfl) | (rw [if_neg (by first | exact h135 | omega)]; exact lv_sub hl [0, 1, 2, 3, 4] rfl))
            exact ihrS (i + 1) H locs ls (by omega) hP hS hl
          · skip
            refine lv_iload X.1 X.2.1 jd_M_sample_138 (lv_at hl 1 rfl) ?_
            refine lv_iconst (v := nI 1) X.1 X.2.1 jd_M_sample_140 (by decide) ?_
            refine kn_iadd X.1 X.2.1 jd_M_sample_141 ?_
            refine lv_goto X.1 X.2.1 jd_M_sample_142 (tgt := 147) (by decide) ?_
            refine lv_istore X.1 X.2.1 jd_M_sample_147 hl (by decide) rfl (fun ls hl => ?_)
            have hl : lv_has ls 7 [(4, .int (nI ((smM (fiF (shuF (ku n 33 0 0) 39 z (n 33 2)) 40 0 128) i).2 + 1))), (5, .int (nI i)), (0, .ref (a 33)), (1, .long (lN z)), (3, .int (nI k))] := hl
            refine lv_iinc (k := 1) (v := nI (i + 1)) X.1 X.2.1 jd_M_sample_149 hl rfl (kn_inc _) (by decide) rfl (fun ls hl => ?_)
            have hl : lv_has ls 7 [(5, .int (nI (i + 1))), (4, .int (nI ((smM (fiF (shuF (ku n 33 0 0) 39 z (n 33 2)) 40 0 128) i).2 + 1))), (0, .ref (a 33)), (1, .long (lN z)), (3, .int (nI k))] := hl
            refine lv_goto X.1 X.2.1 jd_M_sample_152 (tgt := 88) (by decide) ?_
            have hP : va_P D jCl (jW d a ((smM (fiF (shuF (ku n 33 0 0) 39 z (n 33 2)) 40 0 128) (i + 1)).1) (kg g 1 (shuS (ku n 33 0 0) 39 z (n 33 2)))) H := by first | exact hP | (simp only [smM]; first | (rw [if_pos (by first | exact h135 | omega)]; exact hP) | (rw [if_neg (by first | exact h135 | omega)]; exact hP))
            have hl : lv_has ls 7 [(5, .int (nI (i + 1))), (4, .int (nI ((smM (fiF (shuF (ku n 33 0 0) 39 z (n 33 2)) 40 0 128) (i + 1)).2))), (0, .ref (a 33)), (1, .long (lN z)), (3, .int (nI k))] := by first | exact lv_sub hl [0, 1, 2, 3, 4] rfl | (simp only [smM]; first | (rw [if_pos (by first | exact h135 | omega)]; exact lv_sub hl [0, 1, 2, 3, 4] rfl) | (rw [if_neg (by first | exact h135 | omega)]; exact lv_sub hl [0, 1, 2, 3, 4] rfl))
            exact ihrS (i + 1) H locs ls (by omega) hP hS hl
      have hl : lv_has ls 7 [(5, .int (nI 0)), (4, .int (nI ((smM (fiF (shuF (ku n 33 0 0) 39 z (n 33 2)) 40 0 128) 0).2))), (0, .ref (a 33)), (1, .long (lN z)), (3, .int (nI k))] := lv_sub hl [0, 1, 2, 3, 4] rfl
      exact loopS (k) 0 H locs ls (by omega) hP hS hl
    | succ r ihr => 
      intro i H locs ls hi hP hS hl
      refine lv_iload X.1 X.2.1 jd_M_sample_60 (lv_at hl 0 rfl) ?_
      refine lv_sipush (v := nI 128) X.1 X.2.1 jd_M_sample_62 (by decide) ?_
      refine kn_cge X.1 X.2.1 jd_M_sample_65 (tgt := 82) (by decide) (by omega) (fun h65 => absurd h65 (by omega)) (fun h65 => ?_)
      refine lv_aload_n X.1 X.2.1 jd_M_sample_68 rfl (lv_at hl 1 rfl) ?_
      refine jg_M_29_33 X hP jd_M_sample_69 ?_
      refine lv_iload X.1 X.2.1 jd_M_sample_72 (lv_at hl 0 rfl) ?_
      refine lv_iconst (v := nI 0) X.1 X.2.1 jd_M_sample_74 (by decide) ?_
      refine j_zast X hap hP hS 40 i 0 (by decide) (show i < 128 from by omega) (by decide) (by decide) jd_M_sample_75 (fun H locs hP hS => ?_)
      refine lv_iinc (k := 0) (v := nI (i + 1)) X.1 X.2.1 jd_M_sample_76 hl rfl (kn_inc _) (by decide) rfl (fun ls hl => ?_)
      have hl : lv_has ls 7 [(4, .int (nI (i + 1))), (0, .ref (a 33)), (1, .long (lN z)), (3, .int (nI k))] := hl
      refine lv_goto X.1 X.2.1 jd_M_sample_79 (tgt := 60) (by decide) ?_
      have hl : lv_has ls 7 [(4, .int (nI (i + 1))), (0, .ref (a 33)), (1, .long (lN z)), (3, .int (nI k))] := lv_sub hl [0, 1, 2, 3] rfl
      exact ihr (i + 1) H locs ls (by omega) hP hS hl
  have hl : lv_has ls 7 [(4, .int (nI 0)), (0, .ref (a 33)), (1, .long (lN z)), (3, .int (nI k))] := lv_sub hl [0, 1, 2, 3] rfl
  exact loop60 (128) 0 H locs ls (by omega) hP hS hl

set_option maxHeartbeats 4000000 in
theorem c_M_start (l : Launch) (d : Nat → Nat) (D : va_G) (a : Nat → Nat) (n : Nat → Nat → Nat) (g : Nat → Nat) (hap : ∀ i j : Nat, i < 52 → j < 52 → a i = a j → i = j) (hB : NB n) (hs : ¬ n 33 1 = 0) (hbg : n 33 5 = 0) (hn : n 33 2 ≤ 128) (k z : Nat) (h4 : 4 ≤ k) (hk : k ≤ n 33 2) (hM : MI (soM (ku (ku (ku (ku n 33 0 0) 33 5 1) 33 6 k) 33 7 0) z 4)) (hst : ¬ (goT (soM (ku (ku (ku (ku n 33 0 0) 33 5 1) 33 6 k) 33 7 0) z 4) 256).2 = 0 ∨ (goT (soM (ku (ku (ku (ku n 33 0 0) 33 5 1) 33 6 k) 33 7 0) z 4) 256).1 33 7 = 4) : jEff l d D a n g jy_M_start jb_M_start 6 (some .int) { frames := 4, cells := 0, slots := 0, locals := 95 } [.ref (a 33), .int (nI k), .long (lN z)] (fun v9 n2 g2 => some (.int (nI ((goT (soM (ku (ku (ku (ku n 33 0 0) 33 5 1) 33 6 k) 33 7 0) z 4) 256).1 33 11))) = v9 ∧ (goT (soM (ku (ku (ku (ku n 33 0 0) 33 5 1) 33 6 k) 33 7 0) z 4) 256).1 = n2 ∧ (kg g 1 (soS (ku (ku (ku (ku n 33 0 0) 33 5 1) 33 6 k) 33 7 0) (g 1) z 4)) = g2) := by
  refine je_I (by decide) (Nat.le_of_ble_eq_true rfl) ?_
  intro p e s m A below meth c ls Q X hP hS hl hQ
  have hl : lv_has ls 6 [(0, .ref (a 33)), (1, .int (nI k)), (2, .long (lN z))] := hl
  refine lv_aload_n X.1 X.2.1 jd_M_start_0 rfl (lv_at hl 0 rfl) ?_
  refine lv_aload_n X.1 X.2.1 jd_M_start_1 rfl (lv_at hl 0 rfl) ?_
  refine jg_M_77_33 X hP jd_M_start_2 ?_
  refine kn_eq0 X.1 X.2.1 jd_M_start_5 (tgt := 15) (by decide) (hB _ _) (fun h5 => absurd h5 (hs)) (fun h5 => ?_)
  refine lv_aload_n X.1 X.2.1 jd_M_start_8 rfl (lv_at hl 0 rfl) ?_
  refine jg_M_104_33 X hP jd_M_start_9 ?_
  refine kn_eq0 X.1 X.2.1 jd_M_start_12 (tgt := 19) (by decide) (hB _ _) (fun h12 => ?_) (fun h12 => absurd h12 (fun q => q hbg))
  refine lv_iload_n X.1 X.2.1 jd_M_start_19 rfl (lv_at hl 1 rfl) ?_
  refine lv_iconst (v := nI 4) X.1 X.2.1 jd_M_start_20 (by decide) ?_
  refine lv_aload_n X.1 X.2.1 jd_M_start_21 rfl (lv_at hl 0 rfl) ?_
  refine jg_M_85_33 X hP jd_M_start_22 ?_
  refine j_run (j_mkS X (c_M_within l d D a n g k 4 (n 33 2) (by omega) (by omega) (by omega)) jU_b (j_pp X hP) jm_714 jm_713 jm_6 jm_712 (show jOk jy_M_within 3 by unfold jOk; decide +kernel) (by decide) ⟨rfl, rfl⟩ hl.1 rfl (Nat.le_of_ble_eq_true rfl) ⟨Nat.zero_le _, Nat.zero_le _⟩ jd_M_start_25) ?_
  refine W.eq (g2 := F0 m 28 ls [.int (nI (if 4 ≤ k ∧ k ≤ (n 33 2) then 1 else 0)), .ref (a 33)]) rfl ?_
  refine kn_to (y := 1) (if_pos (by omega)) ?_
  refine kn_ne0 X.1 X.2.1 jd_M_start_28 (tgt := 35) (by decide) (by omega) (fun h28 => ?_) (fun h28 => absurd h28 (by omega))
  refine lv_iconst (v := nI 0) X.1 X.2.1 jd_M_start_35 (by decide) ?_
  refine jp_M_66_33 X hap hP hS jd_M_start_36 (fun H locs hP hS => ?_)
  refine lv_aload_n X.1 X.2.1 jd_M_start_39 rfl (lv_at hl 0 rfl) ?_
  refine jg_M_66_33 X hP jd_M_start_40 ?_
  refine kn_to (y := 0) (rfl) ?_
  refine kn_le0 X.1 X.2.1 jd_M_start_43 (tgt := 48) (by decide) (by omega) (fun h43 => ?_) (fun h43 => absurd h43 (by omega))
  refine lv_aload_n X.1 X.2.1 jd_M_start_48 rfl (lv_at hl 0 rfl) ?_
  refine lv_iconst (v := nI 1) X.1 X.2.1 jd_M_start_49 (by decide) ?_
  refine jp_M_104_33 X hap hP hS (by decide) jd_M_start_50 (fun H locs hP hS => ?_)
  refine lv_aload_n X.1 X.2.1 jd_M_start_53 rfl (lv_at hl 0 rfl) ?_
  refine lv_iload_n X.1 X.2.1 jd_M_start_54 rfl (lv_at hl 1 rfl) ?_
  refine jp_M_117_33 X hap hP hS jd_M_start_55 (fun H locs hP hS => ?_)
  refine lv_aload_n X.1 X.2.1 jd_M_start_58 rfl (lv_at hl 0 rfl) ?_
  refine lv_iconst (v := nI 0) X.1 X.2.1 jd_M_start_59 (by decide) ?_
  refine jp_M_32_33 X hap hP hS jd_M_start_60 (fun H locs hP hS => ?_)
  refine lv_iconst (v := nI 0) X.1 X.2.1 jd_M_start_63 (by decide) ?_
  refine lv_istore X.1 X.2.1 jd_M_start_64 hl (by decide) rfl (fun ls hl => ?_)
  have hl : lv_has ls 6 [(4, .int (nI 0)), (0, .ref (a 33)), (1, .int (nI k)), (2, .long (lN z))] := hl
  have loop66 : ∀ (r i : Nat) (H : Heap) (locs : List Loc) (ls : Array Slot), i + r = 4 → va_P D jCl (jW d a (soM (ku (ku (ku (ku n 33 0 0) 33 5 1) 33 6 k) 33 7 0) z i) (kg g 1 (soS (ku (ku (ku (ku n 33 0 0) 33 5 1) 33 6 k) 33 7 0) (g 1) z i))) H → va_S (jAa a s.heap.size) s.heap H locs → lv_has ls 6 [(4, .int (nI i)), (0, .ref (a 33)), (1, .int (nI k)), (2, .long (lN z))] → W p l e { frames := 4, cells := 0, slots := 0, locals := 95 } s m A below meth c H locs 0 0 Q (F0 m 66 ls []) := by
    intro r
    induction r with
    | zero => 
      intro i H locs ls hi hP hS hl
      obtain rfl : 4 = i := by omega
      refine lv_iload X.1 X.2.1 jd_M_start_66 (lv_at hl 0 rfl) ?_
      refine lv_iconst (v := nI 4) X.1 X.2.1 jd_M_start_68 (by decide) ?_
      refine kn_cge X.1 X.2.1 jd_M_start_69 (tgt := 130) (by decide) (by omega) (fun h69 => ?_) (fun h69 => absurd h69 (by omega))
      refine lv_aload_n X.1 X.2.1 jd_M_start_130 rfl (lv_at hl 1 rfl) ?_
      refine j_rune (j_mkV X hP (c_M_goOn l d D a (soM (ku (ku (ku (ku n 33 0 0) 33 5 1) 33 6 k) 33 7 0) z 4) (kg g 1 (soS (ku (ku (ku (ku n 33 0 0) 33 5 1) 33 6 k) 33 7 0) (g 1) z 4)) hap hM hst _) jU_bs (j_pe X hP) jm_757 jm_756 js_43 jm_6 jm_754 (by decide) rfl rfl (show jOk jy_M_goOn 0 by unfold jOk; decide +kernel) (by decide) ⟨rfl, rfl⟩ hl.1 rfl (Nat.le_of_ble_eq_true rfl) ⟨Nat.zero_le _, Nat.zero_le _⟩ jd_M_start_131) hS (fun v131 n131 g131 H locs h131 hP hS => ?_)
      obtain ⟨rfl, rfl, rfl⟩ := h131
      refine W.eq (g2 := F0 m 134 ls []) rfl ?_
      refine lv_aload_n X.1 X.2.1 jd_M_start_134 rfl (lv_at hl 1 rfl) ?_
      refine jg_M_123_33 X hP jd_M_start_135 ?_
      exact hQ _ _ _ _ _ _ _ (⟨rfl, rfl, rfl⟩) hP hS jd_M_start_138
    | succ r ihr => 
      intro i H locs ls hi hP hS hl
      refine lv_iload X.1 X.2.1 jd_M_start_66 (lv_at hl 0 rfl) ?_
      refine lv_iconst (v := nI 4) X.1 X.2.1 jd_M_start_68 (by decide) ?_
      refine kn_cge X.1 X.2.1 jd_M_start_69 (tgt := 130) (by decide) (by omega) (fun h69 => absurd h69 (by omega)) (fun h69 => ?_)
      refine lv_aload_n X.1 X.2.1 jd_M_start_72 rfl (lv_at hl 1 rfl) ?_
      refine lv_aload_n X.1 X.2.1 jd_M_start_73 rfl (lv_at hl 1 rfl) ?_
      refine jg_M_85_33 X hP jd_M_start_74 ?_
      refine kn_to (y := n 33 2) (congrFun (soM_o (n := (ku (ku (ku (ku n 33 0 0) 33 5 1) 33 6 k) 33 7 0)) (z := z) (x := 33) (by decide) (by decide) i) 2) ?_
      refine lv_lload_n X.1 X.2.1 jd_M_start_77 rfl (lv_at hl 3 rfl) ?_
      refine lv_iload X.1 X.2.1 jd_M_start_78 (lv_at hl 0 rfl) ?_
      refine lv_i2l (v := lN i) X.1 X.2.1 jd_M_start_80 (nI_l (by omega)) ?_
      refine kn_ladd X.1 X.2.1 jd_M_start_81 ?_
      refine j_rune (j_mkV X hP (c_M_shuffleF l d D a (soM (ku (ku (ku (ku n 33 0 0) 33 5 1) 33 6 k) 33 7 0) z i) (kg g 1 (soS (ku (ku (ku (ku n 33 0 0) 33 5 1) 33 6 k) 33 7 0) (g 1) z i)) hap (n 33 2) (z + i) hn _) jU_bs (j_pe X hP) jm_734 jm_733 js_40 jm_6 jm_731 (by decide) rfl rfl (show jOk jy_M_shuffle 2 by unfold jOk; decide +kernel) (by decide) ⟨rfl, rfl⟩ hl.1 rfl (Nat.le_of_ble_eq_true rfl) ⟨Nat.zero_le _, Nat.zero_le _⟩ jd_M_start_82) hS (fun v82 n82 g82 H locs h82 hP hS => ?_)
      obtain ⟨rfl, rfl, rfl⟩ := h82
      rw [kg_kg] at hP
      have hP : va_P D jCl (jW d a (shuF (soM (ku (ku (ku (ku n 33 0 0) 33 5 1) 33 6 k) 33 7 0) z i) 39 (z + i) (n 33 2)) (kg g 1 (soS (ku (ku (ku (ku n 33 0 0) 33 5 1) 33 6 k) 33 7 0) (g 1) z (i + 1)))) H := hP
      refine W.eq (g2 := F0 m 85 ls []) rfl ?_
      refine lv_iconst (v := nI 0) X.1 X.2.1 jd_M_start_85 (by decide) ?_
      refine lv_istore X.1 X.2.1 jd_M_start_86 hl (by decide) rfl (fun ls hl => ?_)
      have hl : lv_has ls 6 [(5, .int (nI 0)), (4, .int (nI i)), (0, .ref (a 33)), (1, .int (nI k)), (2, .long (lN z))] := hl
      have loopC : ∀ (rC j : Nat) (H : Heap) (locs : List Loc) (ls : Array Slot), j + rC = n 33 2 → va_P D jCl (jW d a (cpM (shuF (soM (ku (ku (ku (ku n 33 0 0) 33 5 1) 33 6 k) 33 7 0) z i) 39 (z + i) (n 33 2)) i j) (kg g 1 (soS (ku (ku (ku (ku n 33 0 0) 33 5 1) 33 6 k) 33 7 0) (g 1) z (i + 1)))) H → va_S (jAa a s.heap.size) s.heap H locs → lv_has ls 6 [(5, .int (nI j)), (4, .int (nI i)), (0, .ref (a 33)), (1, .int (nI k)), (2, .long (lN z))] → W p l e { frames := 4, cells := 0, slots := 0, locals := 95 } s m A below meth c H locs 0 0 Q (F0 m 88 ls []) := by
        intro rC
        induction rC with
        | zero => 
          intro j H locs ls hj hP hS hl
          obtain rfl : n 33 2 = j := by omega
          refine lv_iload X.1 X.2.1 jd_M_start_88 (lv_at hl 0 rfl) ?_
          refine lv_aload_n X.1 X.2.1 jd_M_start_90 rfl (lv_at hl 2 rfl) ?_
          refine jg_M_85_33 X hP jd_M_start_91 ?_
          refine kn_to (y := n 33 2) (by rw [cpM_o (by decide), shuF_o (by decide), soM_o (by decide) (by decide)]; rfl) ?_
          refine kn_cge X.1 X.2.1 jd_M_start_94 (tgt := 124) (by decide) (by omega) (fun h94 => ?_) (fun h94 => absurd h94 (by omega))
          refine lv_iinc (k := 1) (v := nI (i + 1)) X.1 X.2.1 jd_M_start_124 hl rfl (kn_inc _) (by decide) rfl (fun ls hl => ?_)
          have hl : lv_has ls 6 [(4, .int (nI (i + 1))), (5, .int (nI (n 33 2))), (0, .ref (a 33)), (1, .int (nI k)), (2, .long (lN z))] := hl
          refine lv_goto X.1 X.2.1 jd_M_start_127 (tgt := 66) (by decide) ?_
          have hl : lv_has ls 6 [(4, .int (nI (i + 1))), (0, .ref (a 33)), (1, .int (nI k)), (2, .long (lN z))] := lv_sub hl [0, 2, 3, 4] rfl
          exact ihr (i + 1) H locs ls (by omega) hP hS hl
        | succ rC ihrC => 
          intro j H locs ls hj hP hS hl
          refine lv_iload X.1 X.2.1 jd_M_start_88 (lv_at hl 0 rfl) ?_
          refine lv_aload_n X.1 X.2.1 jd_M_start_90 rfl (lv_at hl 2 rfl) ?_
          refine jg_M_85_33 X hP jd_M_start_91 ?_
          refine kn_to (y := n 33 2) (by rw [cpM_o (by decide), shuF_o (by decide), soM_o (by decide) (by decide)]; rfl) ?_
          refine kn_cge X.1 X.2.1 jd_M_start_94 (tgt := 124) (by decide) (by omega) (fun h94 => absurd h94 (by omega)) (fun h94 => ?_)
          refine lv_aload_n X.1 X.2.1 jd_M_start_97 rfl (lv_at hl 2 rfl) ?_
          refine jg_M_36_33 X hP jd_M_start_98 ?_
          refine lv_sipush (v := nI 128) X.1 X.2.1 jd_M_start_101 (by decide) ?_
          refine lv_iload X.1 X.2.1 jd_M_start_104 (lv_at hl 1 rfl) ?_
          refine kn_imul X.1 X.2.1 jd_M_start_106 ?_
          refine lv_iload X.1 X.2.1 jd_M_start_107 (lv_at hl 0 rfl) ?_
          refine kn_iadd X.1 X.2.1 jd_M_start_109 ?_
          refine lv_aload_n X.1 X.2.1 jd_M_start_110 rfl (lv_at hl 2 rfl) ?_
          refine jg_M_26_33 X hP jd_M_start_111 ?_
          refine lv_iload X.1 X.2.1 jd_M_start_114 (lv_at hl 0 rfl) ?_
          refine j_ald X hP 39 j (by decide) (show j < 128 from by omega) (by decide) jd_M_start_116 ?_
          refine j_ast X hap hP hS 41 ((128 * i) + j) ((cpM (shuF (soM (ku (ku (ku (ku n 33 0 0) 33 5 1) 33 6 k) 33 7 0) z i) 39 (z + i) (n 33 2)) i j) 39 j) (by decide) (show ((128 * i) + j) < 512 from by omega) (by decide) jd_M_start_117 (fun H locs hP hS => ?_)
          refine lv_iinc (k := 0) (v := nI (j + 1)) X.1 X.2.1 jd_M_start_118 hl rfl (kn_inc _) (by decide) rfl (fun ls hl => ?_)
          have hl : lv_has ls 6 [(5, .int (nI (j + 1))), (4, .int (nI i)), (0, .ref (a 33)), (1, .int (nI k)), (2, .long (lN z))] := hl
          refine lv_goto X.1 X.2.1 jd_M_start_121 (tgt := 88) (by decide) ?_
          have hl : lv_has ls 6 [(5, .int (nI (j + 1))), (4, .int (nI i)), (0, .ref (a 33)), (1, .int (nI k)), (2, .long (lN z))] := lv_sub hl [0, 1, 2, 3, 4] rfl
          exact ihrC (j + 1) H locs ls (by omega) hP hS hl
      have hl : lv_has ls 6 [(5, .int (nI 0)), (4, .int (nI i)), (0, .ref (a 33)), (1, .int (nI k)), (2, .long (lN z))] := lv_sub hl [0, 1, 2, 3, 4] rfl
      exact loopC (n 33 2) 0 H locs ls (by omega) hP hS hl
  have hP : va_P D jCl (jW d a (soM (ku (ku (ku (ku n 33 0 0) 33 5 1) 33 6 k) 33 7 0) z 0) (kg g 1 (soS (ku (ku (ku (ku n 33 0 0) 33 5 1) 33 6 k) 33 7 0) (g 1) z 0))) H := by show va_P D jCl (jW d a (ku (ku (ku (ku n 33 0 0) 33 5 1) 33 6 k) 33 7 0) (kg g 1 (g 1))) H; rw [kg_self]; exact hP
  have hl : lv_has ls 6 [(4, .int (nI 0)), (0, .ref (a 33)), (1, .int (nI k)), (2, .long (lN z))] := lv_sub hl [0, 1, 2, 3] rfl
  exact loop66 (4) 0 H locs ls (by omega) hP hS hl

set_option maxHeartbeats 4000000 in
theorem c_M_shorten_1 (l : Launch) (d : Nat → Nat) (D : va_G) (a : Nat → Nat) (n : Nat → Nat → Nat) (g : Nat → Nat) (hap : ∀ i j : Nat, i < 52 → j < 52 → a i = a j → i = j) (hB : NB n) (z x m9 : Nat) (hov : ¬ n 33 7 = 4) : jEff l d D a n g jy_M_shorten jb_M_shorten 10 (some .int) { frames := 2, cells := 0, slots := 0, locals := 49 } [.ref (a 33), .long (lN z), .int (nI x), .int (nI m9)] (fun v9 n2 g2 => some (.int (nI 0)) = v9 ∧ ku n 33 0 1 = n2 ∧ g = g2) := by
  refine je_I (by decide) (Nat.le_of_ble_eq_true rfl) ?_
  intro p e s m A below meth c ls Q X hP hS hl hQ
  have hl : lv_has ls 10 [(0, .ref (a 33)), (1, .long (lN z)), (3, .int (nI x)), (4, .int (nI m9))] := hl
  refine lv_aload_n X.1 X.2.1 jd_M_shorten_0 rfl (lv_at hl 0 rfl) ?_
  refine lv_aload_n X.1 X.2.1 jd_M_shorten_1 rfl (lv_at hl 0 rfl) ?_
  refine jg_M_32_33 X hP jd_M_shorten_2 ?_
  refine lv_iconst (v := nI 4) X.1 X.2.1 jd_M_shorten_5 (by decide) ?_
  refine kn_ceq X.1 X.2.1 jd_M_shorten_6 (tgt := 13) (by decide) (⟨hB _ _, by decide⟩) (fun h6 => absurd h6 (hov)) (fun h6 => ?_)
  refine lv_iconst (v := nI 1) X.1 X.2.1 jd_M_shorten_9 (by decide) ?_
  refine lv_goto X.1 X.2.1 jd_M_shorten_10 (tgt := 40) (by decide) ?_
  refine jp_M_66_33 X hap hP hS jd_M_shorten_40 (fun H locs hP hS => ?_)
  refine lv_aload_n X.1 X.2.1 jd_M_shorten_43 rfl (lv_at hl 0 rfl) ?_
  refine jg_M_66_33 X hP jd_M_shorten_44 ?_
  refine kn_to (y := 1) (rfl) ?_
  refine kn_le0 X.1 X.2.1 jd_M_shorten_47 (tgt := 52) (by decide) (by omega) (fun h47 => absurd h47 (by omega)) (fun h47 => ?_)
  refine lv_iconst (v := nI 0) X.1 X.2.1 jd_M_shorten_50 (by decide) ?_
  exact hQ _ _ _ _ _ _ _ (⟨rfl, rfl, rfl⟩) hP hS jd_M_shorten_51

set_option maxHeartbeats 4000000 in
theorem c_M_shorten_2 (l : Launch) (d : Nat → Nat) (D : va_G) (a : Nat → Nat) (n : Nat → Nat → Nat) (g : Nat → Nat) (hap : ∀ i j : Nat, i < 52 → j < 52 → a i = a j → i = j) (hB : NB n) (z x m9 : Nat) (hx : x < 4294967296) (hm : m9 < 4294967296) (hov : n 33 7 = 4) (hbad : ¬ ((1 ≤ x ∧ x ≤ 65535) ∧ m9 ≤ 128)) : jEff l d D a n g jy_M_shorten jb_M_shorten 10 (some .int) { frames := 2, cells := 0, slots := 0, locals := 49 } [.ref (a 33), .long (lN z), .int (nI x), .int (nI m9)] (fun v9 n2 g2 => some (.int (nI 0)) = v9 ∧ ku n 33 0 2 = n2 ∧ g = g2) := by
  refine je_I (by decide) (Nat.le_of_ble_eq_true rfl) ?_
  intro p e s m A below meth c ls Q X hP hS hl hQ
  have hl : lv_has ls 10 [(0, .ref (a 33)), (1, .long (lN z)), (3, .int (nI x)), (4, .int (nI m9))] := hl
  refine lv_aload_n X.1 X.2.1 jd_M_shorten_0 rfl (lv_at hl 0 rfl) ?_
  refine lv_aload_n X.1 X.2.1 jd_M_shorten_1 rfl (lv_at hl 0 rfl) ?_
  refine jg_M_32_33 X hP jd_M_shorten_2 ?_
  refine lv_iconst (v := nI 4) X.1 X.2.1 jd_M_shorten_5 (by decide) ?_
  refine kn_ceq X.1 X.2.1 jd_M_shorten_6 (tgt := 13) (by decide) (⟨hB _ _, by decide⟩) (fun h6 => ?_) (fun h6 => absurd h6 (fun q => q hov))
  refine lv_iload_n X.1 X.2.1 jd_M_shorten_13 rfl (lv_at hl 2 rfl) ?_
  refine lv_iconst (v := nI 1) X.1 X.2.1 jd_M_shorten_14 (by decide) ?_
  refine lv_ldc (v := nI 65535) X.1 X.2.1 X.2.2.2.2.2.1 (X.2.2.2.2.2.2.1 _ jm_835) jd_M_shorten_15 ?_
  refine j_run (j_mkS X (c_M_within l d D a n g x 1 65535 (by omega) (by omega) (by omega)) jU_b (j_pp X hP) jm_714 jm_713 jm_6 jm_712 (show jOk jy_M_within 3 by unfold jOk; decide +kernel) (by decide) ⟨rfl, rfl⟩ hl.1 rfl (Nat.le_of_ble_eq_true rfl) ⟨Nat.zero_le _, Nat.zero_le _⟩ jd_M_shorten_17) ?_
  refine W.eq (g2 := F0 m 20 ls [.int (nI (if 1 ≤ x ∧ x ≤ 65535 then 1 else 0)), .ref (a 33)]) rfl ?_
  refine kn_eq0 X.1 X.2.1 jd_M_shorten_20 (tgt := 35) (by decide) (by split <;> omega) (fun h20 => ?_) (fun h20 => ?_)
  · skip
    refine lv_iconst (v := nI 2) X.1 X.2.1 jd_M_shorten_35 (by decide) ?_
    refine lv_goto X.1 X.2.1 jd_M_shorten_36 (tgt := 40) (by decide) ?_
    refine jp_M_66_33 X hap hP hS jd_M_shorten_40 (fun H locs hP hS => ?_)
    refine lv_aload_n X.1 X.2.1 jd_M_shorten_43 rfl (lv_at hl 0 rfl) ?_
    refine jg_M_66_33 X hP jd_M_shorten_44 ?_
    refine kn_to (y := 2) (rfl) ?_
    refine kn_le0 X.1 X.2.1 jd_M_shorten_47 (tgt := 52) (by decide) (by omega) (fun h47 => absurd h47 (by omega)) (fun h47 => ?_)
    refine lv_iconst (v := nI 0) X.1 X.2.1 jd_M_shorten_50 (by decide) ?_
    exact hQ _ _ _ _ _ _ _ (⟨rfl, rfl, rfl⟩) hP hS jd_M_shorten_51
  · skip
    refine lv_iload X.1 X.2.1 jd_M_shorten_23 (lv_at hl 3 rfl) ?_
    refine lv_iconst (v := nI 0) X.1 X.2.1 jd_M_shorten_25 (by decide) ?_
    refine lv_sipush (v := nI 128) X.1 X.2.1 jd_M_shorten_26 (by decide) ?_
    refine j_run (j_mkS X (c_M_within l d D a n g m9 0 128 (by omega) (by omega) (by omega)) jU_b (j_pp X hP) jm_714 jm_713 jm_6 jm_712 (show jOk jy_M_within 3 by unfold jOk; decide +kernel) (by decide) ⟨rfl, rfl⟩ hl.1 rfl (Nat.le_of_ble_eq_true rfl) ⟨Nat.zero_le _, Nat.zero_le _⟩ jd_M_shorten_29) ?_
    refine W.eq (g2 := F0 m 32 ls [.int (nI (if 0 ≤ m9 ∧ m9 ≤ 128 then 1 else 0)), .ref (a 33)]) rfl ?_
    refine kn_ne0 X.1 X.2.1 jd_M_shorten_32 (tgt := 39) (by decide) (by split <;> omega) (fun h32 => ?_) (fun h32 => ?_)
    · skip
      exact absurd ⟨kn_if1 h20, (kn_if1 h32).2⟩ hbad
    · skip
      refine lv_iconst (v := nI 2) X.1 X.2.1 jd_M_shorten_35 (by decide) ?_
      refine lv_goto X.1 X.2.1 jd_M_shorten_36 (tgt := 40) (by decide) ?_
      refine jp_M_66_33 X hap hP hS jd_M_shorten_40 (fun H locs hP hS => ?_)
      refine lv_aload_n X.1 X.2.1 jd_M_shorten_43 rfl (lv_at hl 0 rfl) ?_
      refine jg_M_66_33 X hP jd_M_shorten_44 ?_
      refine kn_to (y := 2) (rfl) ?_
      refine kn_le0 X.1 X.2.1 jd_M_shorten_47 (tgt := 52) (by decide) (by omega) (fun h47 => absurd h47 (by omega)) (fun h47 => ?_)
      refine lv_iconst (v := nI 0) X.1 X.2.1 jd_M_shorten_50 (by decide) ?_
      exact hQ _ _ _ _ _ _ _ (⟨rfl, rfl, rfl⟩) hP hS jd_M_shorten_51

set_option maxHeartbeats 4000000 in
theorem c_M_shorten_3a (l : Launch) (d : Nat → Nat) (D : va_G) (a : Nat → Nat) (n : Nat → Nat → Nat) (g : Nat → Nat) (hap : ∀ i j : Nat, i < 52 → j < 52 → a i = a j → i = j) (hB : NB n) (z x m9 : Nat) (hx1 : 1 ≤ x) (hx2 : x ≤ 65535) (hm : m9 ≤ 128) (hov : n 33 7 = 4) (hn : n 33 2 ≤ 128) (hd : n 33 10 ≤ 512) (h01 : ∀ i, n 38 i < 2) (hbad : ¬ n 33 10 + m9 + 17 ≤ n 33 2) : jEff l d D a n g jy_M_shorten jb_M_shorten 10 (some .int) { frames := 2, cells := 0, slots := 0, locals := 49 } [.ref (a 33), .long (lN z), .int (nI x), .int (nI m9)] (fun v9 n2 g2 => some (.int (nI 0)) = v9 ∧ ku (ku n 33 0 0) 33 0 3 = n2 ∧ g = g2) := by
  refine je_I (by decide) (Nat.le_of_ble_eq_true rfl) ?_
  intro p e s m A below meth c ls Q X hP hS hl hQ
  have hl : lv_has ls 10 [(0, .ref (a 33)), (1, .long (lN z)), (3, .int (nI x)), (4, .int (nI m9))] := hl
  refine lv_aload_n X.1 X.2.1 jd_M_shorten_0 rfl (lv_at hl 0 rfl) ?_
  refine lv_aload_n X.1 X.2.1 jd_M_shorten_1 rfl (lv_at hl 0 rfl) ?_
  refine jg_M_32_33 X hP jd_M_shorten_2 ?_
  refine lv_iconst (v := nI 4) X.1 X.2.1 jd_M_shorten_5 (by decide) ?_
  refine kn_ceq X.1 X.2.1 jd_M_shorten_6 (tgt := 13) (by decide) (⟨hB _ _, by decide⟩) (fun h6 => ?_) (fun h6 => absurd h6 (fun q => q hov))
  refine lv_iload_n X.1 X.2.1 jd_M_shorten_13 rfl (lv_at hl 2 rfl) ?_
  refine lv_iconst (v := nI 1) X.1 X.2.1 jd_M_shorten_14 (by decide) ?_
  refine lv_ldc (v := nI 65535) X.1 X.2.1 X.2.2.2.2.2.1 (X.2.2.2.2.2.2.1 _ jm_835) jd_M_shorten_15 ?_
  refine j_run (j_mkS X (c_M_within l d D a n g x 1 65535 (by omega) (by omega) (by omega)) jU_b (j_pp X hP) jm_714 jm_713 jm_6 jm_712 (show jOk jy_M_within 3 by unfold jOk; decide +kernel) (by decide) ⟨rfl, rfl⟩ hl.1 rfl (Nat.le_of_ble_eq_true rfl) ⟨Nat.zero_le _, Nat.zero_le _⟩ jd_M_shorten_17) ?_
  refine W.eq (g2 := F0 m 20 ls [.int (nI (if 1 ≤ x ∧ x ≤ 65535 then 1 else 0)), .ref (a 33)]) rfl ?_
  refine kn_to (y := 1) (if_pos (by omega)) ?_
  refine kn_eq0 X.1 X.2.1 jd_M_shorten_20 (tgt := 35) (by decide) (by omega) (fun h20 => absurd h20 (by omega)) (fun h20 => ?_)
  refine lv_iload X.1 X.2.1 jd_M_shorten_23 (lv_at hl 3 rfl) ?_
  refine lv_iconst (v := nI 0) X.1 X.2.1 jd_M_shorten_25 (by decide) ?_
  refine lv_sipush (v := nI 128) X.1 X.2.1 jd_M_shorten_26 (by decide) ?_
  refine j_run (j_mkS X (c_M_within l d D a n g m9 0 128 (by omega) (by omega) (by omega)) jU_b (j_pp X hP) jm_714 jm_713 jm_6 jm_712 (show jOk jy_M_within 3 by unfold jOk; decide +kernel) (by decide) ⟨rfl, rfl⟩ hl.1 rfl (Nat.le_of_ble_eq_true rfl) ⟨Nat.zero_le _, Nat.zero_le _⟩ jd_M_shorten_29) ?_
  refine W.eq (g2 := F0 m 32 ls [.int (nI (if 0 ≤ m9 ∧ m9 ≤ 128 then 1 else 0)), .ref (a 33)]) rfl ?_
  refine kn_to (y := 1) (if_pos (by omega)) ?_
  refine kn_ne0 X.1 X.2.1 jd_M_shorten_32 (tgt := 39) (by decide) (by omega) (fun h32 => ?_) (fun h32 => absurd h32 (by omega))
  refine lv_iconst (v := nI 0) X.1 X.2.1 jd_M_shorten_39 (by decide) ?_
  refine jp_M_66_33 X hap hP hS jd_M_shorten_40 (fun H locs hP hS => ?_)
  refine lv_aload_n X.1 X.2.1 jd_M_shorten_43 rfl (lv_at hl 0 rfl) ?_
  refine jg_M_66_33 X hP jd_M_shorten_44 ?_
  refine kn_to (y := 0) (rfl) ?_
  refine kn_le0 X.1 X.2.1 jd_M_shorten_47 (tgt := 52) (by decide) (by omega) (fun h47 => ?_) (fun h47 => absurd h47 (by omega))
  refine lv_aload_n X.1 X.2.1 jd_M_shorten_52 rfl (lv_at hl 0 rfl) ?_
  refine jg_M_85_33 X hP jd_M_shorten_53 ?_
  refine kn_to (y := n 33 2) (rfl) ?_
  refine lv_aload_n X.1 X.2.1 jd_M_shorten_56 rfl (lv_at hl 0 rfl) ?_
  refine jg_M_166_33 X hP jd_M_shorten_57 ?_
  refine kn_to (y := n 33 10) (rfl) ?_
  refine lv_isub X.1 X.2.1 jd_M_shorten_60 ?_
  refine kn_is (y := (((n 33 2) + 4294967296 - (n 33 10)) % 4294967296)) (kn_subw (by omega)) ?_
  refine lv_iload X.1 X.2.1 jd_M_shorten_61 (lv_at hl 3 rfl) ?_
  refine lv_isub X.1 X.2.1 jd_M_shorten_63 ?_
  refine kn_is (y := (((((n 33 2) + 4294967296 - (n 33 10)) % 4294967296) + 4294967296 - m9) % 4294967296)) (kn_subw (by omega)) ?_
  refine lv_bipush (v := nI 16) X.1 X.2.1 jd_M_shorten_64 (by decide) ?_
  refine lv_isub X.1 X.2.1 jd_M_shorten_66 ?_
  refine kn_is (y := (((((((n 33 2) + 4294967296 - (n 33 10)) % 4294967296) + 4294967296 - m9) % 4294967296) + 4294967296 - 16) % 4294967296)) (kn_subw (by omega)) ?_
  refine lv_istore X.1 X.2.1 jd_M_shorten_67 hl (by decide) rfl (fun ls hl => ?_)
  have hl : lv_has ls 10 [(5, .int (nI (((((((n 33 2) + 4294967296 - (n 33 10)) % 4294967296) + 4294967296 - m9) % 4294967296) + 4294967296 - 16) % 4294967296))), (0, .ref (a 33)), (1, .long (lN z)), (3, .int (nI x)), (4, .int (nI m9))] := hl
  refine lv_aload_n X.1 X.2.1 jd_M_shorten_69 rfl (lv_at hl 1 rfl) ?_
  refine lv_iconst (v := nI 0) X.1 X.2.1 jd_M_shorten_70 (by decide) ?_
  refine lv_iload_n X.1 X.2.1 jd_M_shorten_71 rfl (lv_at hl 3 rfl) ?_
  refine j_run (j_mkV X hP (c_M_tagOf l d D a (ku n 33 0 0) g 0 x (by decide) (by omega) hn (fun i => h01 _)) jU_b (j_pp X hP) jm_839 jm_838 js_53 jm_6 jm_836 (by decide) rfl rfl (show jOk jy_M_tagOf 2 by unfold jOk; decide +kernel) (by decide) ⟨rfl, rfl⟩ hl.1 rfl (Nat.le_of_ble_eq_true rfl) ⟨Nat.zero_le _, Nat.zero_le _⟩ jd_M_shorten_72) ?_
  refine W.eq (g2 := F0 m 75 ls [.int (nI (tagM (mS n 0) x (n 33 2)))]) rfl ?_
  refine lv_aload_n X.1 X.2.1 jd_M_shorten_75 rfl (lv_at hl 1 rfl) ?_
  refine lv_iconst (v := nI 1) X.1 X.2.1 jd_M_shorten_76 (by decide) ?_
  refine lv_iload_n X.1 X.2.1 jd_M_shorten_77 rfl (lv_at hl 3 rfl) ?_
  refine j_run (j_mkV X hP (c_M_tagOf l d D a (ku n 33 0 0) g 1 x (by decide) (by omega) hn (fun i => h01 _)) jU_b (j_pp X hP) jm_839 jm_838 js_53 jm_6 jm_836 (by decide) rfl rfl (show jOk jy_M_tagOf 2 by unfold jOk; decide +kernel) (by decide) ⟨rfl, rfl⟩ hl.1 rfl (Nat.le_of_ble_eq_true rfl) ⟨Nat.zero_le _, Nat.zero_le _⟩ jd_M_shorten_78) ?_
  refine W.eq (g2 := F0 m 81 ls [.int (nI (tagM (mS n 1) x (n 33 2))), .int (nI (tagM (mS n 0) x (n 33 2)))]) rfl ?_
  refine kn_cne X.1 X.2.1 jd_M_shorten_81 (tgt := 90) (by decide) (⟨by have := tagM_lt (r := mS n 0) (t := n 33 2) (show x < 65536 by omega); omega, by have := tagM_lt (r := mS n 1) (t := n 33 2) (show x < 65536 by omega); omega⟩) (fun h81 => ?_) (fun h81 => ?_)
  · skip
    refine lv_aload_n X.1 X.2.1 jd_M_shorten_90 rfl (lv_at hl 1 rfl) ?_
    refine lv_iconst (v := nI 3) X.1 X.2.1 jd_M_shorten_91 (by decide) ?_
    refine j_rune (j_mkV X hP (c_M_refuse l d D a (ku n 33 0 0) g hap 3 _) jU_bs (j_pe X hP) jm_718 jm_717 js_39 jm_6 jm_715 (by decide) rfl rfl (show jOk jy_M_refuse 1 by unfold jOk; decide +kernel) (by decide) ⟨rfl, rfl⟩ hl.1 rfl (Nat.le_of_ble_eq_true rfl) ⟨Nat.zero_le _, Nat.zero_le _⟩ jd_M_shorten_92) hS (fun v92 n92 g92 H locs h92 hP hS => ?_)
    obtain ⟨rfl, rfl, rfl⟩ := h92
    refine W.eq (g2 := F0 m 95 ls [.int (nI 0)]) rfl ?_
    exact hQ _ _ _ _ _ _ _ (⟨rfl, rfl, rfl⟩) hP hS jd_M_shorten_95
  · skip
    refine lv_iload X.1 X.2.1 jd_M_shorten_84 (lv_at hl 0 rfl) ?_
    refine lv_iconst (v := nI 1) X.1 X.2.1 jd_M_shorten_86 (by decide) ?_
    refine kn_xge X.1 X.2.1 jd_M_shorten_87 (tgt := 96) (by decide) (by omega) (fun h87 => absurd h87 (by omega)) (fun h87 => ?_)
    refine lv_aload_n X.1 X.2.1 jd_M_shorten_90 rfl (lv_at hl 1 rfl) ?_
    refine lv_iconst (v := nI 3) X.1 X.2.1 jd_M_shorten_91 (by decide) ?_
    refine j_rune (j_mkV X hP (c_M_refuse l d D a (ku n 33 0 0) g hap 3 _) jU_bs (j_pe X hP) jm_718 jm_717 js_39 jm_6 jm_715 (by decide) rfl rfl (show jOk jy_M_refuse 1 by unfold jOk; decide +kernel) (by decide) ⟨rfl, rfl⟩ hl.1 rfl (Nat.le_of_ble_eq_true rfl) ⟨Nat.zero_le _, Nat.zero_le _⟩ jd_M_shorten_92) hS (fun v92 n92 g92 H locs h92 hP hS => ?_)
    obtain ⟨rfl, rfl, rfl⟩ := h92
    refine W.eq (g2 := F0 m 95 ls [.int (nI 0)]) rfl ?_
    exact hQ _ _ _ _ _ _ _ (⟨rfl, rfl, rfl⟩) hP hS jd_M_shorten_95

set_option maxHeartbeats 4000000 in
theorem c_M_shorten_3b (l : Launch) (d : Nat → Nat) (D : va_G) (a : Nat → Nat) (n : Nat → Nat → Nat) (g : Nat → Nat) (hap : ∀ i j : Nat, i < 52 → j < 52 → a i = a j → i = j) (hB : NB n) (z x m9 : Nat) (hx1 : 1 ≤ x) (hx2 : x ≤ 65535) (hm : m9 ≤ 128) (hov : n 33 7 = 4) (hn : n 33 2 ≤ 128) (hd : n 33 10 ≤ 512) (h01 : ∀ i, n 38 i < 2) (hok : n 33 10 + m9 + 17 ≤ n 33 2) (hbad : ¬ (tagM (mS n 0) x (n 33 2)) = (tagM (mS n 1) x (n 33 2))) : jEff l d D a n g jy_M_shorten jb_M_shorten 10 (some .int) { frames := 2, cells := 0, slots := 0, locals := 49 } [.ref (a 33), .long (lN z), .int (nI x), .int (nI m9)] (fun v9 n2 g2 => some (.int (nI 0)) = v9 ∧ ku (ku n 33 0 0) 33 0 3 = n2 ∧ g = g2) := by
  refine je_I (by decide) (Nat.le_of_ble_eq_true rfl) ?_
  intro p e s m A below meth c ls Q X hP hS hl hQ
  have hl : lv_has ls 10 [(0, .ref (a 33)), (1, .long (lN z)), (3, .int (nI x)), (4, .int (nI m9))] := hl
  refine lv_aload_n X.1 X.2.1 jd_M_shorten_0 rfl (lv_at hl 0 rfl) ?_
  refine lv_aload_n X.1 X.2.1 jd_M_shorten_1 rfl (lv_at hl 0 rfl) ?_
  refine jg_M_32_33 X hP jd_M_shorten_2 ?_
  refine lv_iconst (v := nI 4) X.1 X.2.1 jd_M_shorten_5 (by decide) ?_
  refine kn_ceq X.1 X.2.1 jd_M_shorten_6 (tgt := 13) (by decide) (⟨hB _ _, by decide⟩) (fun h6 => ?_) (fun h6 => absurd h6 (fun q => q hov))
  refine lv_iload_n X.1 X.2.1 jd_M_shorten_13 rfl (lv_at hl 2 rfl) ?_
  refine lv_iconst (v := nI 1) X.1 X.2.1 jd_M_shorten_14 (by decide) ?_
  refine lv_ldc (v := nI 65535) X.1 X.2.1 X.2.2.2.2.2.1 (X.2.2.2.2.2.2.1 _ jm_835) jd_M_shorten_15 ?_
  refine j_run (j_mkS X (c_M_within l d D a n g x 1 65535 (by omega) (by omega) (by omega)) jU_b (j_pp X hP) jm_714 jm_713 jm_6 jm_712 (show jOk jy_M_within 3 by unfold jOk; decide +kernel) (by decide) ⟨rfl, rfl⟩ hl.1 rfl (Nat.le_of_ble_eq_true rfl) ⟨Nat.zero_le _, Nat.zero_le _⟩ jd_M_shorten_17) ?_
  refine W.eq (g2 := F0 m 20 ls [.int (nI (if 1 ≤ x ∧ x ≤ 65535 then 1 else 0)), .ref (a 33)]) rfl ?_
  refine kn_to (y := 1) (if_pos (by omega)) ?_
  refine kn_eq0 X.1 X.2.1 jd_M_shorten_20 (tgt := 35) (by decide) (by omega) (fun h20 => absurd h20 (by omega)) (fun h20 => ?_)
  refine lv_iload X.1 X.2.1 jd_M_shorten_23 (lv_at hl 3 rfl) ?_
  refine lv_iconst (v := nI 0) X.1 X.2.1 jd_M_shorten_25 (by decide) ?_
  refine lv_sipush (v := nI 128) X.1 X.2.1 jd_M_shorten_26 (by decide) ?_
  refine j_run (j_mkS X (c_M_within l d D a n g m9 0 128 (by omega) (by omega) (by omega)) jU_b (j_pp X hP) jm_714 jm_713 jm_6 jm_712 (show jOk jy_M_within 3 by unfold jOk; decide +kernel) (by decide) ⟨rfl, rfl⟩ hl.1 rfl (Nat.le_of_ble_eq_true rfl) ⟨Nat.zero_le _, Nat.zero_le _⟩ jd_M_shorten_29) ?_
  refine W.eq (g2 := F0 m 32 ls [.int (nI (if 0 ≤ m9 ∧ m9 ≤ 128 then 1 else 0)), .ref (a 33)]) rfl ?_
  refine kn_to (y := 1) (if_pos (by omega)) ?_
  refine kn_ne0 X.1 X.2.1 jd_M_shorten_32 (tgt := 39) (by decide) (by omega) (fun h32 => ?_) (fun h32 => absurd h32 (by omega))
  refine lv_iconst (v := nI 0) X.1 X.2.1 jd_M_shorten_39 (by decide) ?_
  refine jp_M_66_33 X hap hP hS jd_M_shorten_40 (fun H locs hP hS => ?_)
  refine lv_aload_n X.1 X.2.1 jd_M_shorten_43 rfl (lv_at hl 0 rfl) ?_
  refine jg_M_66_33 X hP jd_M_shorten_44 ?_
  refine kn_to (y := 0) (rfl) ?_
  refine kn_le0 X.1 X.2.1 jd_M_shorten_47 (tgt := 52) (by decide) (by omega) (fun h47 => ?_) (fun h47 => absurd h47 (by omega))
  refine lv_aload_n X.1 X.2.1 jd_M_shorten_52 rfl (lv_at hl 0 rfl) ?_
  refine jg_M_85_33 X hP jd_M_shorten_53 ?_
  refine kn_to (y := n 33 2) (rfl) ?_
  refine lv_aload_n X.1 X.2.1 jd_M_shorten_56 rfl (lv_at hl 0 rfl) ?_
  refine jg_M_166_33 X hP jd_M_shorten_57 ?_
  refine kn_to (y := n 33 10) (rfl) ?_
  refine kn_isub X.1 X.2.1 jd_M_shorten_60 (by omega) ?_
  refine lv_iload X.1 X.2.1 jd_M_shorten_61 (lv_at hl 3 rfl) ?_
  refine kn_isub X.1 X.2.1 jd_M_shorten_63 (by omega) ?_
  refine lv_bipush (v := nI 16) X.1 X.2.1 jd_M_shorten_64 (by decide) ?_
  refine kn_isub X.1 X.2.1 jd_M_shorten_66 (by omega) ?_
  refine lv_istore X.1 X.2.1 jd_M_shorten_67 hl (by decide) rfl (fun ls hl => ?_)
  have hl : lv_has ls 10 [(5, .int (nI ((((n 33 2) - (n 33 10)) - m9) - 16))), (0, .ref (a 33)), (1, .long (lN z)), (3, .int (nI x)), (4, .int (nI m9))] := hl
  refine lv_aload_n X.1 X.2.1 jd_M_shorten_69 rfl (lv_at hl 1 rfl) ?_
  refine lv_iconst (v := nI 0) X.1 X.2.1 jd_M_shorten_70 (by decide) ?_
  refine lv_iload_n X.1 X.2.1 jd_M_shorten_71 rfl (lv_at hl 3 rfl) ?_
  refine j_run (j_mkV X hP (c_M_tagOf l d D a (ku n 33 0 0) g 0 x (by decide) (by omega) hn (fun i => h01 _)) jU_b (j_pp X hP) jm_839 jm_838 js_53 jm_6 jm_836 (by decide) rfl rfl (show jOk jy_M_tagOf 2 by unfold jOk; decide +kernel) (by decide) ⟨rfl, rfl⟩ hl.1 rfl (Nat.le_of_ble_eq_true rfl) ⟨Nat.zero_le _, Nat.zero_le _⟩ jd_M_shorten_72) ?_
  refine W.eq (g2 := F0 m 75 ls [.int (nI (tagM (mS n 0) x (n 33 2)))]) rfl ?_
  refine lv_aload_n X.1 X.2.1 jd_M_shorten_75 rfl (lv_at hl 1 rfl) ?_
  refine lv_iconst (v := nI 1) X.1 X.2.1 jd_M_shorten_76 (by decide) ?_
  refine lv_iload_n X.1 X.2.1 jd_M_shorten_77 rfl (lv_at hl 3 rfl) ?_
  refine j_run (j_mkV X hP (c_M_tagOf l d D a (ku n 33 0 0) g 1 x (by decide) (by omega) hn (fun i => h01 _)) jU_b (j_pp X hP) jm_839 jm_838 js_53 jm_6 jm_836 (by decide) rfl rfl (show jOk jy_M_tagOf 2 by unfold jOk; decide +kernel) (by decide) ⟨rfl, rfl⟩ hl.1 rfl (Nat.le_of_ble_eq_true rfl) ⟨Nat.zero_le _, Nat.zero_le _⟩ jd_M_shorten_78) ?_
  refine W.eq (g2 := F0 m 81 ls [.int (nI (tagM (mS n 1) x (n 33 2))), .int (nI (tagM (mS n 0) x (n 33 2)))]) rfl ?_
  refine kn_cne X.1 X.2.1 jd_M_shorten_81 (tgt := 90) (by decide) (⟨by have := tagM_lt (r := mS n 0) (t := n 33 2) (show x < 65536 by omega); omega, by have := tagM_lt (r := mS n 1) (t := n 33 2) (show x < 65536 by omega); omega⟩) (fun h81 => ?_) (fun h81 => absurd h81 (hbad))
  refine lv_aload_n X.1 X.2.1 jd_M_shorten_90 rfl (lv_at hl 1 rfl) ?_
  refine lv_iconst (v := nI 3) X.1 X.2.1 jd_M_shorten_91 (by decide) ?_
  refine j_rune (j_mkV X hP (c_M_refuse l d D a (ku n 33 0 0) g hap 3 _) jU_bs (j_pe X hP) jm_718 jm_717 js_39 jm_6 jm_715 (by decide) rfl rfl (show jOk jy_M_refuse 1 by unfold jOk; decide +kernel) (by decide) ⟨rfl, rfl⟩ hl.1 rfl (Nat.le_of_ble_eq_true rfl) ⟨Nat.zero_le _, Nat.zero_le _⟩ jd_M_shorten_92) hS (fun v92 n92 g92 H locs h92 hP hS => ?_)
  obtain ⟨rfl, rfl, rfl⟩ := h92
  refine W.eq (g2 := F0 m 95 ls [.int (nI 0)]) rfl ?_
  exact hQ _ _ _ _ _ _ _ (⟨rfl, rfl, rfl⟩) hP hS jd_M_shorten_95

set_option maxHeartbeats 4000000 in
theorem c_M_shorten (l : Launch) (d : Nat → Nat) (D : va_G) (a : Nat → Nat) (n : Nat → Nat → Nat) (g : Nat → Nat) (hap : ∀ i j : Nat, i < 52 → j < 52 → a i = a j → i = j) (hB : NB n) (z x m9 : Nat) (hx1 : 1 ≤ x) (hx2 : x ≤ 65535) (hm : m9 ≤ 128) (hov : n 33 7 = 4) (hn : n 33 2 ≤ 128) (hd : n 33 10 ≤ 512) (h01 : ∀ i, n 38 i < 2) (hok : n 33 10 + m9 + 17 ≤ n 33 2) (htg : (tagM (mS n 0) x (n 33 2)) = (tagM (mS n 1) x (n 33 2))) : jEff l d D a n g jy_M_shorten jb_M_shorten 10 (some .int) { frames := 2, cells := 0, slots := 0, locals := 49 } [.ref (a 33), .long (lN z), .int (nI x), .int (nI m9)] (fun v9 n2 g2 => some (.int (nI (n 33 2 - n 33 10 - m9 - 16))) = v9 ∧ (kaM (ku (drM (ku n 33 0 0) z (n 33 2 + (n 33 2 - n 33 10 - m9 - 16) - 1)).1 33 12 (n 33 2 - n 33 10 - m9 - 16)) (n 33 2) (n 33 2 - n 33 10 - m9 - 16) (n 33 2 - n 33 10 - m9 - 16)) = n2 ∧ (kg g 1 (drM (ku n 33 0 0) z (n 33 2 + (n 33 2 - n 33 10 - m9 - 16) - 1)).2) = g2) := by
  refine je_I (by decide) (Nat.le_of_ble_eq_true rfl) ?_
  intro p e s m A below meth c ls Q X hP hS hl hQ
  have hl : lv_has ls 10 [(0, .ref (a 33)), (1, .long (lN z)), (3, .int (nI x)), (4, .int (nI m9))] := hl
  refine lv_aload_n X.1 X.2.1 jd_M_shorten_0 rfl (lv_at hl 0 rfl) ?_
  refine lv_aload_n X.1 X.2.1 jd_M_shorten_1 rfl (lv_at hl 0 rfl) ?_
  refine jg_M_32_33 X hP jd_M_shorten_2 ?_
  refine lv_iconst (v := nI 4) X.1 X.2.1 jd_M_shorten_5 (by decide) ?_
  refine kn_ceq X.1 X.2.1 jd_M_shorten_6 (tgt := 13) (by decide) (⟨hB _ _, by decide⟩) (fun h6 => ?_) (fun h6 => absurd h6 (fun q => q hov))
  refine lv_iload_n X.1 X.2.1 jd_M_shorten_13 rfl (lv_at hl 2 rfl) ?_
  refine lv_iconst (v := nI 1) X.1 X.2.1 jd_M_shorten_14 (by decide) ?_
  refine lv_ldc (v := nI 65535) X.1 X.2.1 X.2.2.2.2.2.1 (X.2.2.2.2.2.2.1 _ jm_835) jd_M_shorten_15 ?_
  refine j_run (j_mkS X (c_M_within l d D a n g x 1 65535 (by omega) (by omega) (by omega)) jU_b (j_pp X hP) jm_714 jm_713 jm_6 jm_712 (show jOk jy_M_within 3 by unfold jOk; decide +kernel) (by decide) ⟨rfl, rfl⟩ hl.1 rfl (Nat.le_of_ble_eq_true rfl) ⟨Nat.zero_le _, Nat.zero_le _⟩ jd_M_shorten_17) ?_
  refine W.eq (g2 := F0 m 20 ls [.int (nI (if 1 ≤ x ∧ x ≤ 65535 then 1 else 0)), .ref (a 33)]) rfl ?_
  refine kn_to (y := 1) (if_pos (by omega)) ?_
  refine kn_eq0 X.1 X.2.1 jd_M_shorten_20 (tgt := 35) (by decide) (by omega) (fun h20 => absurd h20 (by omega)) (fun h20 => ?_)
  refine lv_iload X.1 X.2.1 jd_M_shorten_23 (lv_at hl 3 rfl) ?_
  refine lv_iconst (v := nI 0) X.1 X.2.1 jd_M_shorten_25 (by decide) ?_
  refine lv_sipush (v := nI 128) X.1 X.2.1 jd_M_shorten_26 (by decide) ?_
  refine j_run (j_mkS X (c_M_within l d D a n g m9 0 128 (by omega) (by omega) (by omega)) jU_b (j_pp X hP) jm_714 jm_713 jm_6 jm_712 (show jOk jy_M_within 3 by unfold jOk; decide +kernel) (by decide) ⟨rfl, rfl⟩ hl.1 rfl (Nat.le_of_ble_eq_true rfl) ⟨Nat.zero_le _, Nat.zero_le _⟩ jd_M_shorten_29) ?_
  refine W.eq (g2 := F0 m 32 ls [.int (nI (if 0 ≤ m9 ∧ m9 ≤ 128 then 1 else 0)), .ref (a 33)]) rfl ?_
  refine kn_to (y := 1) (if_pos (by omega)) ?_
  refine kn_ne0 X.1 X.2.1 jd_M_shorten_32 (tgt := 39) (by decide) (by omega) (fun h32 => ?_) (fun h32 => absurd h32 (by omega))
  refine lv_iconst (v := nI 0) X.1 X.2.1 jd_M_shorten_39 (by decide) ?_
  refine jp_M_66_33 X hap hP hS jd_M_shorten_40 (fun H locs hP hS => ?_)
  refine lv_aload_n X.1 X.2.1 jd_M_shorten_43 rfl (lv_at hl 0 rfl) ?_
  refine jg_M_66_33 X hP jd_M_shorten_44 ?_
  refine kn_to (y := 0) (rfl) ?_
  refine kn_le0 X.1 X.2.1 jd_M_shorten_47 (tgt := 52) (by decide) (by omega) (fun h47 => ?_) (fun h47 => absurd h47 (by omega))
  refine lv_aload_n X.1 X.2.1 jd_M_shorten_52 rfl (lv_at hl 0 rfl) ?_
  refine jg_M_85_33 X hP jd_M_shorten_53 ?_
  refine kn_to (y := n 33 2) (rfl) ?_
  refine lv_aload_n X.1 X.2.1 jd_M_shorten_56 rfl (lv_at hl 0 rfl) ?_
  refine jg_M_166_33 X hP jd_M_shorten_57 ?_
  refine kn_to (y := n 33 10) (rfl) ?_
  refine kn_isub X.1 X.2.1 jd_M_shorten_60 (by omega) ?_
  refine lv_iload X.1 X.2.1 jd_M_shorten_61 (lv_at hl 3 rfl) ?_
  refine kn_isub X.1 X.2.1 jd_M_shorten_63 (by omega) ?_
  refine lv_bipush (v := nI 16) X.1 X.2.1 jd_M_shorten_64 (by decide) ?_
  refine kn_isub X.1 X.2.1 jd_M_shorten_66 (by omega) ?_
  refine lv_istore X.1 X.2.1 jd_M_shorten_67 hl (by decide) rfl (fun ls hl => ?_)
  have hl : lv_has ls 10 [(5, .int (nI ((((n 33 2) - (n 33 10)) - m9) - 16))), (0, .ref (a 33)), (1, .long (lN z)), (3, .int (nI x)), (4, .int (nI m9))] := hl
  refine lv_aload_n X.1 X.2.1 jd_M_shorten_69 rfl (lv_at hl 1 rfl) ?_
  refine lv_iconst (v := nI 0) X.1 X.2.1 jd_M_shorten_70 (by decide) ?_
  refine lv_iload_n X.1 X.2.1 jd_M_shorten_71 rfl (lv_at hl 3 rfl) ?_
  refine j_run (j_mkV X hP (c_M_tagOf l d D a (ku n 33 0 0) g 0 x (by decide) (by omega) hn (fun i => h01 _)) jU_b (j_pp X hP) jm_839 jm_838 js_53 jm_6 jm_836 (by decide) rfl rfl (show jOk jy_M_tagOf 2 by unfold jOk; decide +kernel) (by decide) ⟨rfl, rfl⟩ hl.1 rfl (Nat.le_of_ble_eq_true rfl) ⟨Nat.zero_le _, Nat.zero_le _⟩ jd_M_shorten_72) ?_
  refine W.eq (g2 := F0 m 75 ls [.int (nI (tagM (mS n 0) x (n 33 2)))]) rfl ?_
  refine lv_aload_n X.1 X.2.1 jd_M_shorten_75 rfl (lv_at hl 1 rfl) ?_
  refine lv_iconst (v := nI 1) X.1 X.2.1 jd_M_shorten_76 (by decide) ?_
  refine lv_iload_n X.1 X.2.1 jd_M_shorten_77 rfl (lv_at hl 3 rfl) ?_
  refine j_run (j_mkV X hP (c_M_tagOf l d D a (ku n 33 0 0) g 1 x (by decide) (by omega) hn (fun i => h01 _)) jU_b (j_pp X hP) jm_839 jm_838 js_53 jm_6 jm_836 (by decide) rfl rfl (show jOk jy_M_tagOf 2 by unfold jOk; decide +kernel) (by decide) ⟨rfl, rfl⟩ hl.1 rfl (Nat.le_of_ble_eq_true rfl) ⟨Nat.zero_le _, Nat.zero_le _⟩ jd_M_shorten_78) ?_
  refine W.eq (g2 := F0 m 81 ls [.int (nI (tagM (mS n 1) x (n 33 2))), .int (nI (tagM (mS n 0) x (n 33 2)))]) rfl ?_
  refine kn_cne X.1 X.2.1 jd_M_shorten_81 (tgt := 90) (by decide) (⟨by have := tagM_lt (r := mS n 0) (t := n 33 2) (show x < 65536 by omega); omega, by have := tagM_lt (r := mS n 1) (t := n 33 2) (show x < 65536 by omega); omega⟩) (fun h81 => absurd h81 (fun q => q htg)) (fun h81 => ?_)
  refine lv_iload X.1 X.2.1 jd_M_shorten_84 (lv_at hl 0 rfl) ?_
  refine lv_iconst (v := nI 1) X.1 X.2.1 jd_M_shorten_86 (by decide) ?_
  refine kn_cge X.1 X.2.1 jd_M_shorten_87 (tgt := 96) (by decide) (by omega) (fun h87 => ?_) (fun h87 => absurd h87 (by omega))
  refine lv_aload_n X.1 X.2.1 jd_M_shorten_96 rfl (lv_at hl 1 rfl) ?_
  refine lv_lload_n X.1 X.2.1 jd_M_shorten_97 rfl (lv_at hl 2 rfl) ?_
  refine jp_M_88_33 X hap hP hS jd_M_shorten_98 (fun H locs hP hS => ?_)
  refine lv_iconst (v := nI 0) X.1 X.2.1 jd_M_shorten_101 (by decide) ?_
  refine lv_istore X.1 X.2.1 jd_M_shorten_102 hl (by decide) rfl (fun ls hl => ?_)
  have hl : lv_has ls 10 [(6, .int (nI 0)), (5, .int (nI ((((n 33 2) - (n 33 10)) - m9) - 16))), (0, .ref (a 33)), (1, .long (lN z)), (3, .int (nI x)), (4, .int (nI m9))] := hl
  have loop104 : ∀ (r k : Nat) (H : Heap) (locs : List Loc) (ls : Array Slot), k + r = n 33 2 + (n 33 2 - n 33 10 - m9 - 16) - 1 → va_P D jCl (jW d a ((drM (ku n 33 0 0) z k).1) (kg g 1 (drM (ku n 33 0 0) z k).2)) H → va_S (jAa a s.heap.size) s.heap H locs → lv_has ls 10 [(6, .int (nI k)), (5, .int (nI (n 33 2 - n 33 10 - m9 - 16))), (0, .ref (a 33)), (1, .long (lN z)), (3, .int (nI x)), (4, .int (nI m9))] → W p l e { frames := 2, cells := 0, slots := 0, locals := 49 } s m A below meth c H locs 0 0 Q (F0 m 104 ls []) := by
    intro r
    induction r with
    | zero => 
      intro k H locs ls hk hP hS hl
      obtain rfl : n 33 2 + (n 33 2 - n 33 10 - m9 - 16) - 1 = k := by omega
      refine lv_iload X.1 X.2.1 jd_M_shorten_104 (lv_at hl 0 rfl) ?_
      refine lv_aload_n X.1 X.2.1 jd_M_shorten_106 rfl (lv_at hl 2 rfl) ?_
      refine jg_M_85_33 X hP jd_M_shorten_107 ?_
      refine kn_to (y := n 33 2) (by rw [drM_o (by decide)]; rfl) ?_
      refine lv_iload X.1 X.2.1 jd_M_shorten_110 (lv_at hl 1 rfl) ?_
      refine kn_iadd X.1 X.2.1 jd_M_shorten_112 ?_
      refine lv_iconst (v := nI 1) X.1 X.2.1 jd_M_shorten_113 (by decide) ?_
      refine kn_isub X.1 X.2.1 jd_M_shorten_114 (by omega) ?_
      refine kn_cge X.1 X.2.1 jd_M_shorten_115 (tgt := 149) (by decide) (by omega) (fun h115 => ?_) (fun h115 => absurd h115 (by omega))
      refine lv_aload_n X.1 X.2.1 jd_M_shorten_149 rfl (lv_at hl 2 rfl) ?_
      refine lv_iload X.1 X.2.1 jd_M_shorten_150 (lv_at hl 1 rfl) ?_
      refine jp_M_178_33 X hap hP hS jd_M_shorten_152 (fun H locs hP hS => ?_)
      refine lv_iconst (v := nI 0) X.1 X.2.1 jd_M_shorten_155 (by decide) ?_
      refine lv_istore X.1 X.2.1 jd_M_shorten_156 hl (by decide) rfl (fun ls hl => ?_)
      have hl : lv_has ls 10 [(6, .int (nI 0)), (5, .int (nI (n 33 2 - n 33 10 - m9 - 16))), (0, .ref (a 33)), (1, .long (lN z)), (3, .int (nI x)), (4, .int (nI m9))] := hl
      have loopJ : ∀ (rJ j : Nat) (H : Heap) (locs : List Loc) (ls : Array Slot), j + rJ = n 33 2 - n 33 10 - m9 - 16 → va_P D jCl (jW d a (kaM (ku (drM (ku n 33 0 0) z (n 33 2 + (n 33 2 - n 33 10 - m9 - 16) - 1)).1 33 12 (n 33 2 - n 33 10 - m9 - 16)) (n 33 2) (n 33 2 - n 33 10 - m9 - 16) j) (kg g 1 (drM (ku n 33 0 0) z (n 33 2 + (n 33 2 - n 33 10 - m9 - 16) - 1)).2)) H → va_S (jAa a s.heap.size) s.heap H locs → lv_has ls 10 [(6, .int (nI j)), (5, .int (nI (n 33 2 - n 33 10 - m9 - 16))), (0, .ref (a 33)), (1, .long (lN z)), (3, .int (nI x)), (4, .int (nI m9))] → W p l e { frames := 2, cells := 0, slots := 0, locals := 49 } s m A below meth c H locs 0 0 Q (F0 m 158 ls []) := by
        intro rJ
        induction rJ with
        | zero => 
          intro j H locs ls hj hP hS hl
          obtain rfl : n 33 2 - n 33 10 - m9 - 16 = j := by omega
          refine lv_iload X.1 X.2.1 jd_M_shorten_158 (lv_at hl 0 rfl) ?_
          refine lv_iload X.1 X.2.1 jd_M_shorten_160 (lv_at hl 1 rfl) ?_
          refine kn_cge X.1 X.2.1 jd_M_shorten_162 (tgt := 258) (by decide) (by omega) (fun h162 => ?_) (fun h162 => absurd h162 (by omega))
          refine lv_iload X.1 X.2.1 jd_M_shorten_258 (lv_at hl 1 rfl) ?_
          exact hQ _ _ _ _ _ _ _ (⟨rfl, rfl, rfl⟩) hP hS jd_M_shorten_260
        | succ rJ ihrJ => 
          intro j H locs ls hj hP hS hl
          refine lv_iload X.1 X.2.1 jd_M_shorten_158 (lv_at hl 0 rfl) ?_
          refine lv_iload X.1 X.2.1 jd_M_shorten_160 (lv_at hl 1 rfl) ?_
          refine kn_cge X.1 X.2.1 jd_M_shorten_162 (tgt := 258) (by decide) (by omega) (fun h162 => absurd h162 (by omega)) (fun h162 => ?_)
          refine lv_iconst (v := nI 0) X.1 X.2.1 jd_M_shorten_165 (by decide) ?_
          refine lv_istore X.1 X.2.1 jd_M_shorten_166 hl (by decide) rfl (fun ls hl => ?_)
          have hl : lv_has ls 10 [(7, .int (nI 0)), (6, .int (nI j)), (5, .int (nI (n 33 2 - n 33 10 - m9 - 16))), (0, .ref (a 33)), (1, .long (lN z)), (3, .int (nI x)), (4, .int (nI m9))] := hl
          have loopY : ∀ (rY y : Nat) (H : Heap) (locs : List Loc) (ls : Array Slot), y + rY = 2 → va_P D jCl (jW d a (kbM (kaM (ku (drM (ku n 33 0 0) z (n 33 2 + (n 33 2 - n 33 10 - m9 - 16) - 1)).1 33 12 (n 33 2 - n 33 10 - m9 - 16)) (n 33 2) (n 33 2 - n 33 10 - m9 - 16) j) (n 33 2) (n 33 2 - n 33 10 - m9 - 16) j y) (kg g 1 (drM (ku n 33 0 0) z (n 33 2 + (n 33 2 - n 33 10 - m9 - 16) - 1)).2)) H → va_S (jAa a s.heap.size) s.heap H locs → lv_has ls 10 [(7, .int (nI y)), (6, .int (nI j)), (5, .int (nI (n 33 2 - n 33 10 - m9 - 16))), (0, .ref (a 33)), (1, .long (lN z)), (3, .int (nI x)), (4, .int (nI m9))] → W p l e { frames := 2, cells := 0, slots := 0, locals := 49 } s m A below meth c H locs 0 0 Q (F0 m 168 ls []) := by
            intro rY
            induction rY with
            | zero => 
              intro y H locs ls hy hP hS hl
              obtain rfl : 2 = y := by omega
              refine lv_iload X.1 X.2.1 jd_M_shorten_168 (lv_at hl 0 rfl) ?_
              refine lv_iconst (v := nI 2) X.1 X.2.1 jd_M_shorten_170 (by decide) ?_
              refine kn_cge X.1 X.2.1 jd_M_shorten_171 (tgt := 252) (by decide) (by omega) (fun h171 => ?_) (fun h171 => absurd h171 (by omega))
              refine lv_iinc (k := 1) (v := nI (j + 1)) X.1 X.2.1 jd_M_shorten_252 hl rfl (kn_inc _) (by decide) rfl (fun ls hl => ?_)
              have hl : lv_has ls 10 [(6, .int (nI (j + 1))), (7, .int (nI 2)), (5, .int (nI (n 33 2 - n 33 10 - m9 - 16))), (0, .ref (a 33)), (1, .long (lN z)), (3, .int (nI x)), (4, .int (nI m9))] := hl
              refine lv_goto X.1 X.2.1 jd_M_shorten_255 (tgt := 158) (by decide) ?_
              have hl : lv_has ls 10 [(6, .int (nI (j + 1))), (5, .int (nI (n 33 2 - n 33 10 - m9 - 16))), (0, .ref (a 33)), (1, .long (lN z)), (3, .int (nI x)), (4, .int (nI m9))] := lv_sub hl [0, 2, 3, 4, 5, 6] rfl
              exact ihrJ (j + 1) H locs ls (by omega) hP hS hl
            | succ rY ihrY => 
              intro y H locs ls hy hP hS hl
              refine lv_iload X.1 X.2.1 jd_M_shorten_168 (lv_at hl 0 rfl) ?_
              refine lv_iconst (v := nI 2) X.1 X.2.1 jd_M_shorten_170 (by decide) ?_
              refine kn_cge X.1 X.2.1 jd_M_shorten_171 (tgt := 252) (by decide) (by omega) (fun h171 => absurd h171 (by omega)) (fun h171 => ?_)
              refine lv_iconst (v := nI 0) X.1 X.2.1 jd_M_shorten_174 (by decide) ?_
              refine lv_istore X.1 X.2.1 jd_M_shorten_175 hl (by decide) rfl (fun ls hl => ?_)
              have hl : lv_has ls 10 [(8, .int (nI 0)), (7, .int (nI y)), (6, .int (nI j)), (5, .int (nI (n 33 2 - n 33 10 - m9 - 16))), (0, .ref (a 33)), (1, .long (lN z)), (3, .int (nI x)), (4, .int (nI m9))] := hl
              refine lv_iconst (v := nI 0) X.1 X.2.1 jd_M_shorten_177 (by decide) ?_
              refine lv_istore X.1 X.2.1 jd_M_shorten_178 hl (by decide) rfl (fun ls hl => ?_)
              have hl : lv_has ls 10 [(9, .int (nI 0)), (8, .int (nI 0)), (7, .int (nI y)), (6, .int (nI j)), (5, .int (nI (n 33 2 - n 33 10 - m9 - 16))), (0, .ref (a 33)), (1, .long (lN z)), (3, .int (nI x)), (4, .int (nI m9))] := hl
              have loopI : ∀ (rI i : Nat) (ls : Array Slot), i + rI = n 33 2 → lv_has ls 10 [(9, .int (nI i)), (8, .int (nI (kxF (kbM (kaM (ku (drM (ku n 33 0 0) z (n 33 2 + (n 33 2 - n 33 10 - m9 - 16) - 1)).1 33 12 (n 33 2 - n 33 10 - m9 - 16)) (n 33 2) (n 33 2 - n 33 10 - m9 - 16) j) (n 33 2) (n 33 2 - n 33 10 - m9 - 16) j y) y ((n 33 2 - n 33 10 - m9 - 16) - 1 - j) i))), (7, .int (nI y)), (6, .int (nI j)), (5, .int (nI (n 33 2 - n 33 10 - m9 - 16))), (0, .ref (a 33)), (1, .long (lN z)), (3, .int (nI x)), (4, .int (nI m9))] → W p l e { frames := 2, cells := 0, slots := 0, locals := 49 } s m A below meth c H locs 0 0 Q (F0 m 180 ls []) := by
                intro rI
                induction rI with
                | zero => 
                  intro i ls hi hl
                  obtain rfl : n 33 2 = i := by omega
                  refine lv_iload X.1 X.2.1 jd_M_shorten_180 (lv_at hl 0 rfl) ?_
                  refine lv_aload_n X.1 X.2.1 jd_M_shorten_182 rfl (lv_at hl 5 rfl) ?_
                  refine jg_M_85_33 X hP jd_M_shorten_183 ?_
                  refine kn_to (y := n 33 2) (by rw [kbM_o (by decide), kaM_o (by decide)]; show (drM (ku n 33 0 0) z (n 33 2 + (n 33 2 - n 33 10 - m9 - 16) - 1)).1 33 2 = _; rw [drM_o (by decide)]; rfl) ?_
                  refine kn_cge X.1 X.2.1 jd_M_shorten_186 (tgt := 230) (by decide) (by omega) (fun h186 => ?_) (fun h186 => absurd h186 (by omega))
                  refine lv_aload_n X.1 X.2.1 jd_M_shorten_230 rfl (lv_at hl 5 rfl) ?_
                  refine jg_M_60_33 X hP jd_M_shorten_231 ?_
                  refine lv_sipush (v := nI 128) X.1 X.2.1 jd_M_shorten_234 (by decide) ?_
                  refine lv_iload X.1 X.2.1 jd_M_shorten_237 (lv_at hl 2 rfl) ?_
                  refine kn_imul X.1 X.2.1 jd_M_shorten_239 ?_
                  refine lv_iload X.1 X.2.1 jd_M_shorten_240 (lv_at hl 3 rfl) ?_
                  refine kn_iadd X.1 X.2.1 jd_M_shorten_242 ?_
                  refine lv_iload X.1 X.2.1 jd_M_shorten_243 (lv_at hl 1 rfl) ?_
                  refine j_ast X hap hP hS 49 ((128 * y) + j) (kxF (kbM (kaM (ku (drM (ku n 33 0 0) z (n 33 2 + (n 33 2 - n 33 10 - m9 - 16) - 1)).1 33 12 (n 33 2 - n 33 10 - m9 - 16)) (n 33 2) (n 33 2 - n 33 10 - m9 - 16) j) (n 33 2) (n 33 2 - n 33 10 - m9 - 16) j y) y ((n 33 2 - n 33 10 - m9 - 16) - 1 - j) (n 33 2)) (by decide) (show ((128 * y) + j) < 256 from by omega) (by decide) jd_M_shorten_245 (fun H locs hP hS => ?_)
                  refine lv_iinc (k := 2) (v := nI (y + 1)) X.1 X.2.1 jd_M_shorten_246 hl rfl (kn_inc _) (by decide) rfl (fun ls hl => ?_)
                  have hl : lv_has ls 10 [(7, .int (nI (y + 1))), (9, .int (nI (n 33 2))), (8, .int (nI (kxF (kbM (kaM (ku (drM (ku n 33 0 0) z (n 33 2 + (n 33 2 - n 33 10 - m9 - 16) - 1)).1 33 12 (n 33 2 - n 33 10 - m9 - 16)) (n 33 2) (n 33 2 - n 33 10 - m9 - 16) j) (n 33 2) (n 33 2 - n 33 10 - m9 - 16) j y) y ((n 33 2 - n 33 10 - m9 - 16) - 1 - j) (n 33 2)))), (6, .int (nI j)), (5, .int (nI (n 33 2 - n 33 10 - m9 - 16))), (0, .ref (a 33)), (1, .long (lN z)), (3, .int (nI x)), (4, .int (nI m9))] := hl
                  refine lv_goto X.1 X.2.1 jd_M_shorten_249 (tgt := 168) (by decide) ?_
                  have hl : lv_has ls 10 [(7, .int (nI (y + 1))), (6, .int (nI j)), (5, .int (nI (n 33 2 - n 33 10 - m9 - 16))), (0, .ref (a 33)), (1, .long (lN z)), (3, .int (nI x)), (4, .int (nI m9))] := lv_sub hl [0, 3, 4, 5, 6, 7, 8] rfl
                  exact ihrY (y + 1) H locs ls (by omega) hP hS hl
                | succ rI ihrI => 
                  intro i ls hi hl
                  refine lv_iload X.1 X.2.1 jd_M_shorten_180 (lv_at hl 0 rfl) ?_
                  refine lv_aload_n X.1 X.2.1 jd_M_shorten_182 rfl (lv_at hl 5 rfl) ?_
                  refine jg_M_85_33 X hP jd_M_shorten_183 ?_
                  refine kn_to (y := n 33 2) (by rw [kbM_o (by decide), kaM_o (by decide)]; show (drM (ku n 33 0 0) z (n 33 2 + (n 33 2 - n 33 10 - m9 - 16) - 1)).1 33 2 = _; rw [drM_o (by decide)]; rfl) ?_
                  refine kn_cge X.1 X.2.1 jd_M_shorten_186 (tgt := 230) (by decide) (by omega) (fun h186 => absurd h186 (by omega)) (fun h186 => ?_)
                  refine lv_iload X.1 X.2.1 jd_M_shorten_189 (lv_at hl 1 rfl) ?_
                  refine lv_aload_n X.1 X.2.1 jd_M_shorten_191 rfl (lv_at hl 5 rfl) ?_
                  refine jg_M_23_33 X hP jd_M_shorten_192 ?_
                  refine lv_sipush (v := nI 128) X.1 X.2.1 jd_M_shorten_195 (by decide) ?_
                  refine lv_iload X.1 X.2.1 jd_M_shorten_198 (lv_at hl 2 rfl) ?_
                  refine kn_imul X.1 X.2.1 jd_M_shorten_200 ?_
                  refine lv_iload X.1 X.2.1 jd_M_shorten_201 (lv_at hl 0 rfl) ?_
                  refine kn_iadd X.1 X.2.1 jd_M_shorten_203 ?_
                  refine j_ald X hP 38 ((128 * y) + i) (by decide) (show ((128 * y) + i) < 256 from by omega) (by decide) jd_M_shorten_204 ?_
                  refine lv_aload_n X.1 X.2.1 jd_M_shorten_205 rfl (lv_at hl 5 rfl) ?_
                  refine jg_M_63_33 X hP jd_M_shorten_206 ?_
                  refine lv_iload X.1 X.2.1 jd_M_shorten_209 (lv_at hl 0 rfl) ?_
                  refine lv_iload X.1 X.2.1 jd_M_shorten_211 (lv_at hl 4 rfl) ?_
                  refine kn_iadd X.1 X.2.1 jd_M_shorten_213 ?_
                  refine lv_iconst (v := nI 1) X.1 X.2.1 jd_M_shorten_214 (by decide) ?_
                  refine kn_isub X.1 X.2.1 jd_M_shorten_215 (by omega) ?_
                  refine lv_iload X.1 X.2.1 jd_M_shorten_216 (lv_at hl 3 rfl) ?_
                  refine kn_isub X.1 X.2.1 jd_M_shorten_218 (by omega) ?_
                  refine kn_to (y := i + ((n 33 2 - n 33 10 - m9 - 16) - 1 - j)) (by omega) ?_
                  refine j_ald X hP 50 (i + ((n 33 2 - n 33 10 - m9 - 16) - 1 - j)) (by decide) (show (i + ((n 33 2 - n 33 10 - m9 - 16) - 1 - j)) < 256 from by omega) (by decide) jd_M_shorten_219 ?_
                  refine kn_iand X.1 X.2.1 jd_M_shorten_220 ?_
                  refine kn_ixor X.1 X.2.1 jd_M_shorten_221 ?_
                  refine lv_istore X.1 X.2.1 jd_M_shorten_222 hl (by decide) rfl (fun ls hl => ?_)
                  have hl : lv_has ls 10 [(8, .int (nI ((kxF (kbM (kaM (ku (drM (ku n 33 0 0) z (n 33 2 + (n 33 2 - n 33 10 - m9 - 16) - 1)).1 33 12 (n 33 2 - n 33 10 - m9 - 16)) (n 33 2) (n 33 2 - n 33 10 - m9 - 16) j) (n 33 2) (n 33 2 - n 33 10 - m9 - 16) j y) y ((n 33 2 - n 33 10 - m9 - 16) - 1 - j) i) ^^^ (((kbM (kaM (ku (drM (ku n 33 0 0) z (n 33 2 + (n 33 2 - n 33 10 - m9 - 16) - 1)).1 33 12 (n 33 2 - n 33 10 - m9 - 16)) (n 33 2) (n 33 2 - n 33 10 - m9 - 16) j) (n 33 2) (n 33 2 - n 33 10 - m9 - 16) j y) 38 ((128 * y) + i)) &&& ((kbM (kaM (ku (drM (ku n 33 0 0) z (n 33 2 + (n 33 2 - n 33 10 - m9 - 16) - 1)).1 33 12 (n 33 2 - n 33 10 - m9 - 16)) (n 33 2) (n 33 2 - n 33 10 - m9 - 16) j) (n 33 2) (n 33 2 - n 33 10 - m9 - 16) j y) 50 (i + ((n 33 2 - n 33 10 - m9 - 16) - 1 - j))))))), (9, .int (nI i)), (7, .int (nI y)), (6, .int (nI j)), (5, .int (nI (n 33 2 - n 33 10 - m9 - 16))), (0, .ref (a 33)), (1, .long (lN z)), (3, .int (nI x)), (4, .int (nI m9))] := hl
                  refine lv_iinc (k := 1) (v := nI (i + 1)) X.1 X.2.1 jd_M_shorten_224 hl rfl (kn_inc _) (by decide) rfl (fun ls hl => ?_)
                  have hl : lv_has ls 10 [(9, .int (nI (i + 1))), (8, .int (nI ((kxF (kbM (kaM (ku (drM (ku n 33 0 0) z (n 33 2 + (n 33 2 - n 33 10 - m9 - 16) - 1)).1 33 12 (n 33 2 - n 33 10 - m9 - 16)) (n 33 2) (n 33 2 - n 33 10 - m9 - 16) j) (n 33 2) (n 33 2 - n 33 10 - m9 - 16) j y) y ((n 33 2 - n 33 10 - m9 - 16) - 1 - j) i) ^^^ (((kbM (kaM (ku (drM (ku n 33 0 0) z (n 33 2 + (n 33 2 - n 33 10 - m9 - 16) - 1)).1 33 12 (n 33 2 - n 33 10 - m9 - 16)) (n 33 2) (n 33 2 - n 33 10 - m9 - 16) j) (n 33 2) (n 33 2 - n 33 10 - m9 - 16) j y) 38 ((128 * y) + i)) &&& ((kbM (kaM (ku (drM (ku n 33 0 0) z (n 33 2 + (n 33 2 - n 33 10 - m9 - 16) - 1)).1 33 12 (n 33 2 - n 33 10 - m9 - 16)) (n 33 2) (n 33 2 - n 33 10 - m9 - 16) j) (n 33 2) (n 33 2 - n 33 10 - m9 - 16) j y) 50 (i + ((n 33 2 - n 33 10 - m9 - 16) - 1 - j))))))), (7, .int (nI y)), (6, .int (nI j)), (5, .int (nI (n 33 2 - n 33 10 - m9 - 16))), (0, .ref (a 33)), (1, .long (lN z)), (3, .int (nI x)), (4, .int (nI m9))] := hl
                  refine lv_goto X.1 X.2.1 jd_M_shorten_227 (tgt := 180) (by decide) ?_
                  have hl : lv_has ls 10 [(9, .int (nI (i + 1))), (8, .int (nI (kxF (kbM (kaM (ku (drM (ku n 33 0 0) z (n 33 2 + (n 33 2 - n 33 10 - m9 - 16) - 1)).1 33 12 (n 33 2 - n 33 10 - m9 - 16)) (n 33 2) (n 33 2 - n 33 10 - m9 - 16) j) (n 33 2) (n 33 2 - n 33 10 - m9 - 16) j y) y ((n 33 2 - n 33 10 - m9 - 16) - 1 - j) (i + 1)))), (7, .int (nI y)), (6, .int (nI j)), (5, .int (nI (n 33 2 - n 33 10 - m9 - 16))), (0, .ref (a 33)), (1, .long (lN z)), (3, .int (nI x)), (4, .int (nI m9))] := lv_sub hl [0, 1, 2, 3, 4, 5, 6, 7, 8] rfl
                  exact ihrI (i + 1) ls (by omega) hl
              have hl : lv_has ls 10 [(9, .int (nI 0)), (8, .int (nI (kxF (kbM (kaM (ku (drM (ku n 33 0 0) z (n 33 2 + (n 33 2 - n 33 10 - m9 - 16) - 1)).1 33 12 (n 33 2 - n 33 10 - m9 - 16)) (n 33 2) (n 33 2 - n 33 10 - m9 - 16) j) (n 33 2) (n 33 2 - n 33 10 - m9 - 16) j y) y ((n 33 2 - n 33 10 - m9 - 16) - 1 - j) 0))), (7, .int (nI y)), (6, .int (nI j)), (5, .int (nI (n 33 2 - n 33 10 - m9 - 16))), (0, .ref (a 33)), (1, .long (lN z)), (3, .int (nI x)), (4, .int (nI m9))] := lv_sub hl [0, 1, 2, 3, 4, 5, 6, 7, 8] rfl
              exact loopI (n 33 2) 0 ls (by omega) hl
          have hl : lv_has ls 10 [(7, .int (nI 0)), (6, .int (nI j)), (5, .int (nI (n 33 2 - n 33 10 - m9 - 16))), (0, .ref (a 33)), (1, .long (lN z)), (3, .int (nI x)), (4, .int (nI m9))] := lv_sub hl [0, 1, 2, 3, 4, 5, 6] rfl
          exact loopY (2) 0 H locs ls (by omega) hP hS hl
      have hl : lv_has ls 10 [(6, .int (nI 0)), (5, .int (nI (n 33 2 - n 33 10 - m9 - 16))), (0, .ref (a 33)), (1, .long (lN z)), (3, .int (nI x)), (4, .int (nI m9))] := lv_sub hl [0, 1, 2, 3, 4, 5] rfl
      exact loopJ (n 33 2 - n 33 10 - m9 - 16) 0 H locs ls (by omega) hP hS hl
    | succ r ihr => 
      intro k H locs ls hk hP hS hl
      refine lv_iload X.1 X.2.1 jd_M_shorten_104 (lv_at hl 0 rfl) ?_
      refine lv_aload_n X.1 X.2.1 jd_M_shorten_106 rfl (lv_at hl 2 rfl) ?_
      refine jg_M_85_33 X hP jd_M_shorten_107 ?_
      refine kn_to (y := n 33 2) (by rw [drM_o (by decide)]; rfl) ?_
      refine lv_iload X.1 X.2.1 jd_M_shorten_110 (lv_at hl 1 rfl) ?_
      refine kn_iadd X.1 X.2.1 jd_M_shorten_112 ?_
      refine lv_iconst (v := nI 1) X.1 X.2.1 jd_M_shorten_113 (by decide) ?_
      refine kn_isub X.1 X.2.1 jd_M_shorten_114 (by omega) ?_
      refine kn_cge X.1 X.2.1 jd_M_shorten_115 (tgt := 149) (by decide) (by omega) (fun h115 => absurd h115 (by omega)) (fun h115 => ?_)
      refine lv_aload_n X.1 X.2.1 jd_M_shorten_118 rfl (lv_at hl 2 rfl) ?_
      refine j_rune (j_mkV X hP (c_M_turn l d D a (drM (ku n 33 0 0) z k).1 (kg g 1 (drM (ku n 33 0 0) z k).2) hap _) jU_bs (j_pe X hP) jm_743 jm_742 js_42 jm_6 jm_740 (by decide) rfl rfl (show jOk jy_M_turn 0 by unfold jOk; decide +kernel) (by decide) ⟨rfl, rfl⟩ hl.1 rfl (Nat.le_of_ble_eq_true rfl) ⟨Nat.zero_le _, Nat.zero_le _⟩ jd_M_shorten_119) hS (fun v119 n119 g119 H locs h119 hP hS => ?_)
      obtain ⟨rfl, rfl, rfl⟩ := h119
      rw [kg_kg, kg_s] at hP
      refine W.eq (g2 := F0 m 122 ls []) rfl ?_
      refine lv_aload_n X.1 X.2.1 jd_M_shorten_122 rfl (lv_at hl 2 rfl) ?_
      refine jg_M_63_33 X hP jd_M_shorten_123 ?_
      refine lv_iload X.1 X.2.1 jd_M_shorten_126 (lv_at hl 0 rfl) ?_
      refine lv_aload_n X.1 X.2.1 jd_M_shorten_128 rfl (lv_at hl 2 rfl) ?_
      refine jg_M_88_33 X hP jd_M_shorten_129 ?_
      refine kn_tol (y := advF (drM (ku n 33 0 0) z k).2) (by rw [kg_s]) ?_
      refine lv_lconst (v := lN 0) X.1 X.2.1 jd_M_shorten_132 (by decide) ?_
      refine kn_lneg X.1 X.2.1 jd_M_shorten_133 jd_M_shorten_134 (tgt := 141) (by decide) (advF_lt _) (fun h134 => ?_) (fun h134 => ?_)
      · skip
        refine lv_iconst (v := nI 0) X.1 X.2.1 jd_M_shorten_141 (by decide) ?_
        refine j_ast X hap hP hS 50 k 0 (by decide) (show k < 256 from by omega) (by decide) jd_M_shorten_142 (fun H locs hP hS => ?_)
        refine lv_iinc (k := 0) (v := nI (k + 1)) X.1 X.2.1 jd_M_shorten_143 hl rfl (kn_inc _) (by decide) rfl (fun ls hl => ?_)
        have hl : lv_has ls 10 [(6, .int (nI (k + 1))), (5, .int (nI (n 33 2 - n 33 10 - m9 - 16))), (0, .ref (a 33)), (1, .long (lN z)), (3, .int (nI x)), (4, .int (nI m9))] := hl
        refine lv_goto X.1 X.2.1 jd_M_shorten_146 (tgt := 104) (by decide) ?_
        have hP : va_P D jCl (jW d a (drM (ku n 33 0 0) z (k + 1)).1 (kg g 1 (drM (ku n 33 0 0) z (k + 1)).2)) H := by simp only [drM]; rw [h134]; exact hP
        have hl : lv_has ls 10 [(6, .int (nI (k + 1))), (5, .int (nI (n 33 2 - n 33 10 - m9 - 16))), (0, .ref (a 33)), (1, .long (lN z)), (3, .int (nI x)), (4, .int (nI m9))] := lv_sub hl [0, 1, 2, 3, 4, 5] rfl
        exact ihr (k + 1) H locs ls (by omega) hP hS hl
      · skip
        refine lv_iconst (v := nI 1) X.1 X.2.1 jd_M_shorten_137 (by decide) ?_
        refine lv_goto X.1 X.2.1 jd_M_shorten_138 (tgt := 142) (by decide) ?_
        refine j_ast X hap hP hS 50 k 1 (by decide) (show k < 256 from by omega) (by decide) jd_M_shorten_142 (fun H locs hP hS => ?_)
        refine lv_iinc (k := 0) (v := nI (k + 1)) X.1 X.2.1 jd_M_shorten_143 hl rfl (kn_inc _) (by decide) rfl (fun ls hl => ?_)
        have hl : lv_has ls 10 [(6, .int (nI (k + 1))), (5, .int (nI (n 33 2 - n 33 10 - m9 - 16))), (0, .ref (a 33)), (1, .long (lN z)), (3, .int (nI x)), (4, .int (nI m9))] := hl
        refine lv_goto X.1 X.2.1 jd_M_shorten_146 (tgt := 104) (by decide) ?_
        have hP : va_P D jCl (jW d a (drM (ku n 33 0 0) z (k + 1)).1 (kg g 1 (drM (ku n 33 0 0) z (k + 1)).2)) H := by simp only [drM]; rw [h134]; exact hP
        have hl : lv_has ls 10 [(6, .int (nI (k + 1))), (5, .int (nI (n 33 2 - n 33 10 - m9 - 16))), (0, .ref (a 33)), (1, .long (lN z)), (3, .int (nI x)), (4, .int (nI m9))] := lv_sub hl [0, 1, 2, 3, 4, 5] rfl
        exact ihr (k + 1) H locs ls (by omega) hP hS hl
  have hl : lv_has ls 10 [(6, .int (nI 0)), (5, .int (nI (n 33 2 - n 33 10 - m9 - 16))), (0, .ref (a 33)), (1, .long (lN z)), (3, .int (nI x)), (4, .int (nI m9))] := lv_sub hl [0, 1, 2, 3, 4, 5] rfl
  exact loop104 (n 33 2 + (n 33 2 - n 33 10 - m9 - 16) - 1) 0 H locs ls (by omega) hP hS hl
