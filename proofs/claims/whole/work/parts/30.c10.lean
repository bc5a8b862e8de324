theorem kn_subw {x y : Nat} (h : y ≤ 4294967296) : nI x - nI y = nI ((x + 4294967296 - y) % 4294967296) := by
  apply kn_inj
  rw [Int32.toBitVec_sub, kn_bv, kn_bv, kn_bv]
  apply BitVec.eq_of_toNat_eq
  simp only [BitVec.toNat_sub, BitVec.toNat_ofNat]
  omega
theorem c_G_shuffleF (l : Launch) (d : Nat → Nat) (D : va_G) (a : Nat → Nat) (n : Nat → Nat → Nat) (g : Nat → Nat) (hap : ∀ i j : Nat, i < 52 → j < 52 → a i = a j → i = j) (q t z : Nat) (hq : q < 52) (hI : jI q = 128) (ht : t ≤ 128) : jEff l d D a n g jy_G_shuffle jb_G_shuffle 8 none { frames := 2, cells := 0, slots := 0, locals := 46 } [.ref (a 13), .long (lN z), .int (nI t), .ref (a q)] (fun v9 n2 g2 => none = v9 ∧ shuF n q z t = n2 ∧ kg g 0 (shuS n q z t) = g2) := by
  unfold shuF shuS
  by_cases h : t = 0
  · subst h
    exact c_G_shuffle_0 l d D a n g hap q z
  · simp only [if_neg h]
    exact c_G_shuffle l d D a n g hap q t z hq hI (by omega) ht

set_option maxHeartbeats 4000000 in
theorem c_K_sample (l : Launch) (d : Nat → Nat) (D : va_G) (a : Nat → Nat) (n : Nat → Nat → Nat) (g : Nat → Nat) (hap : ∀ i j : Nat, i < 52 → j < 52 → a i = a j → i = j) (hB : NB n) (z k : Nat) (hs : ¬ n 0 0 = 4294967295) (hbg : n 14 3 = 4294967295) (hk : k ≤ n 0 0) (hn : n 0 0 ≤ 128) (h6 : ∀ i, n 6 i < 2) (h12 : ∀ i, n 12 i < 2) (hsh : ∀ i, i < n 0 0 → shuF n 30 z (n 0 0) 30 i < 128) : jEff l d D a n g jy_K_sample jb_K_sample 7 (some .int) { frames := 3, cells := 0, slots := 0, locals := 73 } [.ref (a 0), .long (lN z), .int (nI k)] (fun v9 n2 g2 => some (.int (nI (sa0 n z k).2)) = v9 ∧ saF n z k = n2 ∧ (kg g 0 (shuS n 30 z (n 0 0))) = g2) := by
  refine je_I (by decide) (Nat.le_of_ble_eq_true rfl) ?_
  intro p e s m A below meth c ls Q X hP hS hl hQ
  have hl : lv_has ls 7 [(0, .ref (a 0)), (1, .long (lN z)), (3, .int (nI k))] := hl
  refine lv_aload_n X.1 X.2.1 jd_K_sample_0 rfl (lv_at hl 0 rfl) ?_
  refine j_run (j_mkV X hP (c_K_isSifted l d D a n g (hB _ _)) jU_b (j_pp X hP) jm_318 jm_317 js_8 jm_1 jm_315 (by decide) rfl rfl (show jOk jy_K_isSifted 0 by unfold jOk; decide +kernel) (by decide) ⟨rfl, rfl⟩ hl.1 rfl (Nat.le_of_ble_eq_true rfl) ⟨Nat.zero_le _, Nat.zero_le _⟩ jd_K_sample_1) ?_
  refine W.eq (g2 := F0 m 4 ls [.int (nI (if n 0 0 = 4294967295 then 0 else 1))]) rfl ?_
  refine kn_to (y := 1) (if_neg hs) ?_
  refine kn_eq0 X.1 X.2.1 jd_K_sample_4 (tgt := 17) (by decide) (by omega) (fun h4 => absurd h4 (by decide)) (fun h4 => ?_)
  refine lv_aload_n X.1 X.2.1 jd_K_sample_7 rfl (lv_at hl 0 rfl) ?_
  refine jg_K_31_0 X hP jd_K_sample_8 ?_
  refine j_run (j_mkN (host := "KeyDistiller") X hP (c_D_isBegun l d D a n g (hB _ _)) jU_b (j_pp X hP) jm_365 jm_364 js_12 jm_4 (by decide +kernel) (by decide) rfl rfl (show jOk jy_D_isBegun 0 by unfold jOk; decide +kernel) (by decide) ⟨rfl, rfl⟩ hl.1 rfl (Nat.le_of_ble_eq_true rfl) ⟨Nat.zero_le _, Nat.zero_le _⟩ jd_K_sample_11) ?_
  refine W.eq (g2 := F0 m 14 ls [.int (nI (if n 14 3 = 4294967295 then 0 else 1))]) rfl ?_
  refine kn_to (y := 0) (if_pos hbg) ?_
  refine kn_eq0 X.1 X.2.1 jd_K_sample_14 (tgt := 27) (by decide) (by omega) (fun h14 => ?_) (fun h14 => absurd h14 (by decide))
  refine lv_iload_n X.1 X.2.1 jd_K_sample_27 rfl (lv_at hl 2 rfl) ?_
  refine kn_lt0 X.1 X.2.1 jd_K_sample_28 (tgt := 39) (by decide) (by omega) (fun h28 => absurd h28 (by omega)) (fun h28 => ?_)
  refine lv_iload_n X.1 X.2.1 jd_K_sample_31 rfl (lv_at hl 2 rfl) ?_
  refine lv_aload_n X.1 X.2.1 jd_K_sample_32 rfl (lv_at hl 0 rfl) ?_
  refine jg_K_45_0 X hP jd_K_sample_33 ?_
  refine kn_cle X.1 X.2.1 jd_K_sample_36 (tgt := 49) (by decide) (by omega) (fun h36 => ?_) (fun h36 => absurd h36 (by omega))
  refine lv_aload_n X.1 X.2.1 jd_K_sample_49 rfl (lv_at hl 0 rfl) ?_
  refine jg_K_22_0 X hP jd_K_sample_50 ?_
  refine lv_lload_n X.1 X.2.1 jd_K_sample_53 rfl (lv_at hl 1 rfl) ?_
  refine lv_aload_n X.1 X.2.1 jd_K_sample_54 rfl (lv_at hl 0 rfl) ?_
  refine jg_K_45_0 X hP jd_K_sample_55 ?_
  refine lv_aload_n X.1 X.2.1 jd_K_sample_58 rfl (lv_at hl 0 rfl) ?_
  refine jg_K_35_0 X hP jd_K_sample_59 ?_
  refine j_rune (j_mkN (host := "KeyDistiller") X hP (c_G_shuffleF l d D a n g hap 30 (n 0 0) z (by decide) rfl hn _) jU_bs (j_pe X hP) jm_371 jm_370 js_13 jm_3 (by decide +kernel) (by decide) rfl rfl (show jOk jy_G_shuffle 3 by unfold jOk; decide +kernel) (by decide) ⟨rfl, rfl⟩ hl.1 rfl (Nat.le_of_ble_eq_true rfl) ⟨Nat.zero_le _, Nat.zero_le _⟩ jd_K_sample_62) hS (fun v62 n62 g62 H locs h62 hP hS => ?_)
  obtain ⟨rfl, rfl, rfl⟩ := h62
  refine W.eq (g2 := F0 m 65 ls []) rfl ?_
  refine lv_aload_n X.1 X.2.1 jd_K_sample_65 rfl (lv_at hl 0 rfl) ?_
  refine jg_K_39_0 X hP jd_K_sample_66 ?_
  refine lv_iconst (v := nI 0) X.1 X.2.1 jd_K_sample_69 (by decide) ?_
  refine j_rune (j_mkS X (c_Arrays_fill l d D a (shuF n 30 z (n 0 0)) (kg g 0 (shuS n 30 z (n 0 0))) hap 31 0 (by decide) rfl _) jU_bs (j_pe X hP) jm_390 jm_389 jm_12 jm_388 (show jOk jy_Arrays_fill 2 by unfold jOk; decide +kernel) (by decide) ⟨rfl, rfl⟩ hl.1 rfl (Nat.le_of_ble_eq_true rfl) ⟨Nat.zero_le _, Nat.zero_le _⟩ jd_K_sample_70) hS (fun v70 n70 g70 H locs h70 hP hS => ?_)
  obtain ⟨rfl, rfl, rfl⟩ := h70
  refine W.eq (g2 := F0 m 73 ls []) rfl ?_
  refine lv_iconst (v := nI 0) X.1 X.2.1 jd_K_sample_73 (by decide) ?_
  refine lv_istore X.1 X.2.1 jd_K_sample_74 hl (by decide) rfl (fun ls hl => ?_)
  have hl : lv_has ls 7 [(4, .int (nI 0)), (0, .ref (a 0)), (1, .long (lN z)), (3, .int (nI k))] := hl
  refine lv_iconst (v := nI 0) X.1 X.2.1 jd_K_sample_76 (by decide) ?_
  refine lv_istore X.1 X.2.1 jd_K_sample_77 hl (by decide) rfl (fun ls hl => ?_)
  have hl : lv_has ls 7 [(5, .int (nI 0)), (4, .int (nI 0)), (0, .ref (a 0)), (1, .long (lN z)), (3, .int (nI k))] := hl
  have loop79 : ∀ (r i : Nat) (H : Heap) (locs : List Loc) (ls : Array Slot), i + r = k → va_P D jCl (jW d a ((smP (fiF (shuF n 30 z (n 0 0)) 31 0 128) i).1) (kg g 0 (shuS n 30 z (n 0 0)))) H → va_S (jAa a s.heap.size) s.heap H locs → lv_has ls 7 [(5, .int (nI i)), (4, .int (nI ((smP (fiF (shuF n 30 z (n 0 0)) 31 0 128) i).2))), (0, .ref (a 0)), (1, .long (lN z)), (3, .int (nI k))] → W p l e { frames := 3, cells := 0, slots := 0, locals := 73 } s m A below meth c H locs 0 0 Q (F0 m 79 ls []) := by
    intro r
    induction r with
    | zero => 
      intro i H locs ls hi hP hS hl
      obtain rfl : k = i := by omega
      refine lv_iload X.1 X.2.1 jd_K_sample_79 (lv_at hl 0 rfl) ?_
      refine lv_iload_n X.1 X.2.1 jd_K_sample_81 rfl (lv_at hl 4 rfl) ?_
      refine kn_cge X.1 X.2.1 jd_K_sample_82 (tgt := 134) (by decide) (by omega) (fun h82 => ?_) (fun h82 => absurd h82 (by omega))
      have hP : va_P D jCl (jW d a (sa0 n z k).1 (kg g 0 (shuS n 30 z (n 0 0)))) H := hP
      refine lv_aload_n X.1 X.2.1 jd_K_sample_134 rfl (lv_at hl 2 rfl) ?_
      refine jg_K_10_0 X hP jd_K_sample_135 ?_
      refine lv_aload_n X.1 X.2.1 jd_K_sample_138 rfl (lv_at hl 2 rfl) ?_
      refine jg_K_39_0 X hP jd_K_sample_139 ?_
      refine lv_aload_n X.1 X.2.1 jd_K_sample_142 rfl (lv_at hl 2 rfl) ?_
      refine jg_K_45_0 X hP jd_K_sample_143 ?_
      refine kn_to (y := n 0 0) (by rw [sa0_o (by decide)]) ?_
      refine j_rune (j_mkN (host := "KeyDistiller") X hP (c_S_leaveOut_1 l d D a (sa0 n z k).1 (kg g 0 (shuS n 30 z (n 0 0))) hap (n 0 0) hn (fun i j => NB_lvP (NB_sa0 hB) i _ _) _) jU_bs (j_pe X hP) jm_394 jm_393 js_17 jm_2 (by decide +kernel) (by decide) rfl rfl (show jOk jy_S_leaveOut 2 by unfold jOk; decide +kernel) (by decide) ⟨rfl, rfl⟩ hl.1 rfl (Nat.le_of_ble_eq_true rfl) ⟨Nat.zero_le _, Nat.zero_le _⟩ jd_K_sample_146) hS (fun v146 n146 g146 H locs h146 hP hS => ?_)
      obtain ⟨rfl, rfl, rfl⟩ := h146
      refine W.eq (g2 := F0 m 149 ls []) rfl ?_
      refine lv_aload_n X.1 X.2.1 jd_K_sample_149 rfl (lv_at hl 2 rfl) ?_
      refine jg_K_16_0 X hP jd_K_sample_150 ?_
      refine lv_aload_n X.1 X.2.1 jd_K_sample_153 rfl (lv_at hl 2 rfl) ?_
      refine jg_K_39_0 X hP jd_K_sample_154 ?_
      refine lv_aload_n X.1 X.2.1 jd_K_sample_157 rfl (lv_at hl 2 rfl) ?_
      refine jg_K_45_0 X hP jd_K_sample_158 ?_
      refine kn_to (y := n 0 0) (by rw [lvP_o (by decide), sa0_o (by decide)]) ?_
      refine j_rune (j_mkN (host := "KeyDistiller") X hP (c_S_leaveOut_7 l d D a (lvP (sa0 n z k).1 6 31 (n 0 0)).1 (kg g 0 (shuS n 30 z (n 0 0))) hap (n 0 0) hn (fun i j => NB_lvP (NB_lvP (NB_sa0 hB) _) i _ _) _) jU_bs (j_pe X hP) jm_394 jm_393 js_17 jm_2 (by decide +kernel) (by decide) rfl rfl (show jOk jy_S_leaveOut 2 by unfold jOk; decide +kernel) (by decide) ⟨rfl, rfl⟩ hl.1 rfl (Nat.le_of_ble_eq_true rfl) ⟨Nat.zero_le _, Nat.zero_le _⟩ jd_K_sample_161) hS (fun v161 n161 g161 H locs h161 hP hS => ?_)
      obtain ⟨rfl, rfl, rfl⟩ := h161
      have hP : va_P D jCl (jW d a (sa1 n z k) (kg g 0 (shuS n 30 z (n 0 0)))) H := hP
      refine W.eq (g2 := F0 m 164 ls []) rfl ?_
      refine lv_aload_n X.1 X.2.1 jd_K_sample_164 rfl (lv_at hl 2 rfl) ?_
      refine lv_dup X.1 X.2.1 jd_K_sample_165 rfl ?_
      refine jg_K_45_0 X hP jd_K_sample_166 ?_
      refine kn_to (y := n 0 0) (by rw [sa1_o (by decide)]) ?_
      refine lv_iload_n X.1 X.2.1 jd_K_sample_169 rfl (lv_at hl 4 rfl) ?_
      refine kn_isub X.1 X.2.1 jd_K_sample_170 (by omega) ?_
      refine jp_K_45_0 X hap hP hS jd_K_sample_171 (fun H locs hP hS => ?_)
      refine lv_aload_n X.1 X.2.1 jd_K_sample_174 rfl (lv_at hl 2 rfl) ?_
      refine lv_dup X.1 X.2.1 jd_K_sample_175 rfl ?_
      refine jg_K_115_0 X hP jd_K_sample_176 ?_
      refine kn_to (y := n 0 1) (by show sa1 n z k 0 1 = _; rw [sa1_o (by decide)]) ?_
      refine lv_iload_n X.1 X.2.1 jd_K_sample_179 rfl (lv_at hl 4 rfl) ?_
      refine kn_iadd X.1 X.2.1 jd_K_sample_180 ?_
      refine jp_K_115_0 X hap hP hS jd_K_sample_181 (fun H locs hP hS => ?_)
      refine lv_aload_n X.1 X.2.1 jd_K_sample_184 rfl (lv_at hl 2 rfl) ?_
      refine lv_dup X.1 X.2.1 jd_K_sample_185 rfl ?_
      refine jg_K_118_0 X hP jd_K_sample_186 ?_
      refine kn_to (y := n 0 2) (by show sa1 n z k 0 2 = _; rw [sa1_o (by decide)]) ?_
      refine lv_iload X.1 X.2.1 jd_K_sample_189 (lv_at hl 1 rfl) ?_
      refine kn_iadd X.1 X.2.1 jd_K_sample_191 ?_
      refine jp_K_118_0 X hap hP hS jd_K_sample_192 (fun H locs hP hS => ?_)
      refine lv_iload X.1 X.2.1 jd_K_sample_195 (lv_at hl 1 rfl) ?_
      exact hQ _ _ _ _ _ _ _ (⟨rfl, rfl, rfl⟩) hP hS jd_K_sample_197
    | succ r ihr => 
      intro i H locs ls hi hP hS hl
      refine lv_iload X.1 X.2.1 jd_K_sample_79 (lv_at hl 0 rfl) ?_
      refine lv_iload_n X.1 X.2.1 jd_K_sample_81 rfl (lv_at hl 4 rfl) ?_
      refine kn_cge X.1 X.2.1 jd_K_sample_82 (tgt := 134) (by decide) (by omega) (fun h82 => absurd h82 (by omega)) (fun h82 => ?_)
      refine lv_aload_n X.1 X.2.1 jd_K_sample_85 rfl (lv_at hl 2 rfl) ?_
      refine jg_K_35_0 X hP jd_K_sample_86 ?_
      refine lv_iload X.1 X.2.1 jd_K_sample_89 (lv_at hl 0 rfl) ?_
      refine j_ald X hP 30 i (by decide) (show i < 128 from by omega) (by decide) jd_K_sample_91 ?_
      refine lv_istore X.1 X.2.1 jd_K_sample_92 hl (by decide) rfl (fun ls hl => ?_)
      have hl : lv_has ls 7 [(6, .int (nI (((smP (fiF (shuF n 30 z (n 0 0)) 31 0 128) i).1) 30 i))), (5, .int (nI i)), (4, .int (nI ((smP (fiF (shuF n 30 z (n 0 0)) 31 0 128) i).2))), (0, .ref (a 0)), (1, .long (lN z)), (3, .int (nI k))] := hl
      refine lv_aload_n X.1 X.2.1 jd_K_sample_94 rfl (lv_at hl 3 rfl) ?_
      refine jg_K_39_0 X hP jd_K_sample_95 ?_
      refine lv_iload X.1 X.2.1 jd_K_sample_98 (lv_at hl 0 rfl) ?_
      refine lv_iconst (v := nI 1) X.1 X.2.1 jd_K_sample_100 (by decide) ?_
      refine j_ast X hap hP hS 31 (((smP (fiF (shuF n 30 z (n 0 0)) 31 0 128) i).1) 30 i) 1 (by decide) (show (((smP (fiF (shuF n 30 z (n 0 0)) 31 0 128) i).1) 30 i) < 128 from by rw [smP_o (by decide), fiF_o (by decide)]; exact hsh _ (by omega)) (by decide) jd_K_sample_101 (fun H locs hP hS => ?_)
      refine lv_iload X.1 X.2.1 jd_K_sample_102 (lv_at hl 2 rfl) ?_
      refine lv_aload_n X.1 X.2.1 jd_K_sample_104 rfl (lv_at hl 3 rfl) ?_
      refine jg_K_10_0 X hP jd_K_sample_105 ?_
      refine jg_K_89_1 X hP jd_K_sample_108 ?_
      refine lv_iload X.1 X.2.1 jd_K_sample_111 (lv_at hl 0 rfl) ?_
      refine j_ald X hP 6 (((smP (fiF (shuF n 30 z (n 0 0)) 31 0 128) i).1) 30 i) (by decide) (show (((smP (fiF (shuF n 30 z (n 0 0)) 31 0 128) i).1) 30 i) < 128 from by rw [smP_o (by decide), fiF_o (by decide)]; exact hsh _ (by omega)) (by decide) jd_K_sample_113 ?_
      refine lv_aload_n X.1 X.2.1 jd_K_sample_114 rfl (lv_at hl 3 rfl) ?_
      refine jg_K_16_0 X hP jd_K_sample_115 ?_
      refine jg_K_89_7 X hP jd_K_sample_118 ?_
      refine lv_iload X.1 X.2.1 jd_K_sample_121 (lv_at hl 0 rfl) ?_
      refine j_ald X hP 12 (((smP (fiF (shuF n 30 z (n 0 0)) 31 0 128) i).1) 30 i) (by decide) (show (((smP (fiF (shuF n 30 z (n 0 0)) 31 0 128) i).1) 30 i) < 128 from by rw [smP_o (by decide), fiF_o (by decide)]; exact hsh _ (by omega)) (by decide) jd_K_sample_123 ?_
      refine kn_ixor X.1 X.2.1 jd_K_sample_124 ?_
      refine kn_iadd X.1 X.2.1 jd_K_sample_125 ?_
      refine lv_istore X.1 X.2.1 jd_K_sample_126 hl (by decide) rfl (fun ls hl => ?_)
      have hl : lv_has ls 7 [(4, .int (nI ((smP (fiF (shuF n 30 z (n 0 0)) 31 0 128) i).2 + (((ku ((smP (fiF (shuF n 30 z (n 0 0)) 31 0 128) i).1) 31 (((smP (fiF (shuF n 30 z (n 0 0)) 31 0 128) i).1) 30 i) 1) 6 (((smP (fiF (shuF n 30 z (n 0 0)) 31 0 128) i).1) 30 i)) ^^^ ((ku ((smP (fiF (shuF n 30 z (n 0 0)) 31 0 128) i).1) 31 (((smP (fiF (shuF n 30 z (n 0 0)) 31 0 128) i).1) 30 i) 1) 12 (((smP (fiF (shuF n 30 z (n 0 0)) 31 0 128) i).1) 30 i)))))), (6, .int (nI (((smP (fiF (shuF n 30 z (n 0 0)) 31 0 128) i).1) 30 i))), (5, .int (nI i)), (0, .ref (a 0)), (1, .long (lN z)), (3, .int (nI k))] := hl
      refine lv_iinc (k := 2) (v := nI (i + 1)) X.1 X.2.1 jd_K_sample_128 hl rfl (kn_inc _) (by decide) rfl (fun ls hl => ?_)
      have hl : lv_has ls 7 [(5, .int (nI (i + 1))), (4, .int (nI ((smP (fiF (shuF n 30 z (n 0 0)) 31 0 128) i).2 + (((ku ((smP (fiF (shuF n 30 z (n 0 0)) 31 0 128) i).1) 31 (((smP (fiF (shuF n 30 z (n 0 0)) 31 0 128) i).1) 30 i) 1) 6 (((smP (fiF (shuF n 30 z (n 0 0)) 31 0 128) i).1) 30 i)) ^^^ ((ku ((smP (fiF (shuF n 30 z (n 0 0)) 31 0 128) i).1) 31 (((smP (fiF (shuF n 30 z (n 0 0)) 31 0 128) i).1) 30 i) 1) 12 (((smP (fiF (shuF n 30 z (n 0 0)) 31 0 128) i).1) 30 i)))))), (6, .int (nI (((smP (fiF (shuF n 30 z (n 0 0)) 31 0 128) i).1) 30 i))), (0, .ref (a 0)), (1, .long (lN z)), (3, .int (nI k))] := hl
      refine lv_goto X.1 X.2.1 jd_K_sample_131 (tgt := 79) (by decide) ?_
      have hl : lv_has ls 7 [(5, .int (nI (i + 1))), (4, .int (nI ((smP (fiF (shuF n 30 z (n 0 0)) 31 0 128) (i + 1)).2))), (0, .ref (a 0)), (1, .long (lN z)), (3, .int (nI k))] := lv_sub hl [0, 1, 3, 4, 5] rfl
      exact ihr (i + 1) H locs ls (by omega) hP hS hl
  have hl : lv_has ls 7 [(5, .int (nI 0)), (4, .int (nI ((smP (fiF (shuF n 30 z (n 0 0)) 31 0 128) 0).2))), (0, .ref (a 0)), (1, .long (lN z)), (3, .int (nI k))] := lv_sub hl [0, 1, 2, 3, 4] rfl
  exact loop79 (k) 0 H locs ls (by omega) hP hS hl

set_option maxHeartbeats 4000000 in
theorem t_K_sample_ISa (l : Launch) (d : Nat → Nat) (D : va_G) (a : Nat → Nat) (n : Nat → Nat → Nat) (g : Nat → Nat) (hlt : l.stackTraces = false) (hB : NB n) (z k : Nat) (hs : n 0 0 = 4294967295) : jThr l d D a n g jy_K_sample jb_K_sample 7 (some .int) { frames := 6, cells := 1, slots := 6, locals := 82 } [.ref (a 0), .long (lN z), .int (nI k)] "java/lang/IllegalStateException" := by
  refine jt_T hlt 72 76 rfl (by decide) (Nat.le_of_ble_eq_true rfl) jx_fIS jm_323 jm_11 jx_gIS jx_bIS jx_oIS (by decide) ?_
  intro p e s m A below meth c ls Q X hP hl hQ
  have hl : lv_has ls 7 [(0, .ref (a 0)), (1, .long (lN z)), (3, .int (nI k))] := hl
  refine lv_aload_n X.1 X.2.1 jd_K_sample_0 rfl (lv_at hl 0 rfl) ?_
  refine j_run (j_mkV X hP (c_K_isSifted l d D a n g (hB _ _)) jU_b (j_pp X hP) jm_318 jm_317 js_8 jm_1 jm_315 (by decide) rfl rfl (show jOk jy_K_isSifted 0 by unfold jOk; decide +kernel) (by decide) ⟨rfl, rfl⟩ hl.1 rfl (Nat.le_of_ble_eq_true rfl) ⟨Nat.zero_le _, Nat.zero_le _⟩ jd_K_sample_1) ?_
  refine W.eq (g2 := F0 m 4 ls [.int (nI (if n 0 0 = 4294967295 then 0 else 1))]) rfl ?_
  refine kn_to (y := 0) (if_pos hs) ?_
  refine kn_eq0 X.1 X.2.1 jd_K_sample_4 (tgt := 17) (by decide) (by omega) (fun h4 => ?_) (fun h4 => absurd h4 (by decide))
  exact hQ 17 98 "not between sifting and the start" _ (by decide) hl.1 jd_K_sample_17 jd_K_sample_20 jd_K_sample_21 jd_K_sample_23 jd_K_sample_26

set_option maxHeartbeats 4000000 in
theorem t_K_start_ISa (l : Launch) (d : Nat → Nat) (D : va_G) (a : Nat → Nat) (n : Nat → Nat → Nat) (g : Nat → Nat) (hlt : l.stackTraces = false) (hB : NB n) (k z : Nat) (hs : n 0 0 = 4294967295) : jThr l d D a n g jy_K_start jb_K_start 5 (some .int) { frames := 6, cells := 1, slots := 6, locals := 82 } [.ref (a 0), .int (nI k), .long (lN z)] "java/lang/IllegalStateException" := by
  refine jt_T hlt 72 76 rfl (by decide) (Nat.le_of_ble_eq_true rfl) jx_fIS jm_323 jm_11 jx_gIS jx_bIS jx_oIS (by decide) ?_
  intro p e s m A below meth c ls Q X hP hl hQ
  have hl : lv_has ls 5 [(0, .ref (a 0)), (1, .int (nI k)), (2, .long (lN z))] := hl
  refine lv_aload_n X.1 X.2.1 jd_K_start_0 rfl (lv_at hl 0 rfl) ?_
  refine j_run (j_mkV X hP (c_K_isSifted l d D a n g (hB _ _)) jU_b (j_pp X hP) jm_318 jm_317 js_8 jm_1 jm_315 (by decide) rfl rfl (show jOk jy_K_isSifted 0 by unfold jOk; decide +kernel) (by decide) ⟨rfl, rfl⟩ hl.1 rfl (Nat.le_of_ble_eq_true rfl) ⟨Nat.zero_le _, Nat.zero_le _⟩ jd_K_start_1) ?_
  refine W.eq (g2 := F0 m 4 ls [.int (nI (if n 0 0 = 4294967295 then 0 else 1))]) rfl ?_
  refine kn_to (y := 0) (if_pos hs) ?_
  refine kn_eq0 X.1 X.2.1 jd_K_start_4 (tgt := 17) (by decide) (by omega) (fun h4 => ?_) (fun h4 => absurd h4 (by decide))
  exact hQ 17 121 "not sifted, or begun already" _ (by decide) hl.1 jd_K_start_17 jd_K_start_20 jd_K_start_21 jd_K_start_23 jd_K_start_26

set_option maxHeartbeats 4000000 in
theorem t_K_sample_ISb (l : Launch) (d : Nat → Nat) (D : va_G) (a : Nat → Nat) (n : Nat → Nat → Nat) (g : Nat → Nat) (hlt : l.stackTraces = false) (hB : NB n) (z k : Nat) (hs : ¬ n 0 0 = 4294967295) (hbg : ¬ n 14 3 = 4294967295) : jThr l d D a n g jy_K_sample jb_K_sample 7 (some .int) { frames := 6, cells := 1, slots := 6, locals := 82 } [.ref (a 0), .long (lN z), .int (nI k)] "java/lang/IllegalStateException" := by
  refine jt_T hlt 72 76 rfl (by decide) (Nat.le_of_ble_eq_true rfl) jx_fIS jm_323 jm_11 jx_gIS jx_bIS jx_oIS (by decide) ?_
  intro p e s m A below meth c ls Q X hP hl hQ
  have hl : lv_has ls 7 [(0, .ref (a 0)), (1, .long (lN z)), (3, .int (nI k))] := hl
  refine lv_aload_n X.1 X.2.1 jd_K_sample_0 rfl (lv_at hl 0 rfl) ?_
  refine j_run (j_mkV X hP (c_K_isSifted l d D a n g (hB _ _)) jU_b (j_pp X hP) jm_318 jm_317 js_8 jm_1 jm_315 (by decide) rfl rfl (show jOk jy_K_isSifted 0 by unfold jOk; decide +kernel) (by decide) ⟨rfl, rfl⟩ hl.1 rfl (Nat.le_of_ble_eq_true rfl) ⟨Nat.zero_le _, Nat.zero_le _⟩ jd_K_sample_1) ?_
  refine W.eq (g2 := F0 m 4 ls [.int (nI (if n 0 0 = 4294967295 then 0 else 1))]) rfl ?_
  refine kn_to (y := 1) (if_neg hs) ?_
  refine kn_eq0 X.1 X.2.1 jd_K_sample_4 (tgt := 17) (by decide) (by omega) (fun h4 => absurd h4 (by decide)) (fun h4 => ?_)
  refine lv_aload_n X.1 X.2.1 jd_K_sample_7 rfl (lv_at hl 0 rfl) ?_
  refine jg_K_31_0 X hP jd_K_sample_8 ?_
  refine j_run (j_mkN (host := "KeyDistiller") X hP (c_D_isBegun l d D a n g (hB _ _)) jU_b (j_pp X hP) jm_365 jm_364 js_12 jm_4 (by decide +kernel) (by decide) rfl rfl (show jOk jy_D_isBegun 0 by unfold jOk; decide +kernel) (by decide) ⟨rfl, rfl⟩ hl.1 rfl (Nat.le_of_ble_eq_true rfl) ⟨Nat.zero_le _, Nat.zero_le _⟩ jd_K_sample_11) ?_
  refine W.eq (g2 := F0 m 14 ls [.int (nI (if n 14 3 = 4294967295 then 0 else 1))]) rfl ?_
  refine kn_to (y := 1) (if_neg hbg) ?_
  refine kn_eq0 X.1 X.2.1 jd_K_sample_14 (tgt := 27) (by decide) (by omega) (fun h14 => absurd h14 (by decide)) (fun h14 => ?_)
  exact hQ 17 98 "not between sifting and the start" _ (by decide) hl.1 jd_K_sample_17 jd_K_sample_20 jd_K_sample_21 jd_K_sample_23 jd_K_sample_26

set_option maxHeartbeats 4000000 in
theorem t_K_start_ISb (l : Launch) (d : Nat → Nat) (D : va_G) (a : Nat → Nat) (n : Nat → Nat → Nat) (g : Nat → Nat) (hlt : l.stackTraces = false) (hB : NB n) (k z : Nat) (hs : ¬ n 0 0 = 4294967295) (hbg : ¬ n 14 3 = 4294967295) : jThr l d D a n g jy_K_start jb_K_start 5 (some .int) { frames := 6, cells := 1, slots := 6, locals := 82 } [.ref (a 0), .int (nI k), .long (lN z)] "java/lang/IllegalStateException" := by
  refine jt_T hlt 72 76 rfl (by decide) (Nat.le_of_ble_eq_true rfl) jx_fIS jm_323 jm_11 jx_gIS jx_bIS jx_oIS (by decide) ?_
  intro p e s m A below meth c ls Q X hP hl hQ
  have hl : lv_has ls 5 [(0, .ref (a 0)), (1, .int (nI k)), (2, .long (lN z))] := hl
  refine lv_aload_n X.1 X.2.1 jd_K_start_0 rfl (lv_at hl 0 rfl) ?_
  refine j_run (j_mkV X hP (c_K_isSifted l d D a n g (hB _ _)) jU_b (j_pp X hP) jm_318 jm_317 js_8 jm_1 jm_315 (by decide) rfl rfl (show jOk jy_K_isSifted 0 by unfold jOk; decide +kernel) (by decide) ⟨rfl, rfl⟩ hl.1 rfl (Nat.le_of_ble_eq_true rfl) ⟨Nat.zero_le _, Nat.zero_le _⟩ jd_K_start_1) ?_
  refine W.eq (g2 := F0 m 4 ls [.int (nI (if n 0 0 = 4294967295 then 0 else 1))]) rfl ?_
  refine kn_to (y := 1) (if_neg hs) ?_
  refine kn_eq0 X.1 X.2.1 jd_K_start_4 (tgt := 17) (by decide) (by omega) (fun h4 => absurd h4 (by decide)) (fun h4 => ?_)
  refine lv_aload_n X.1 X.2.1 jd_K_start_7 rfl (lv_at hl 0 rfl) ?_
  refine jg_K_31_0 X hP jd_K_start_8 ?_
  refine j_run (j_mkN (host := "KeyDistiller") X hP (c_D_isBegun l d D a n g (hB _ _)) jU_b (j_pp X hP) jm_365 jm_364 js_12 jm_4 (by decide +kernel) (by decide) rfl rfl (show jOk jy_D_isBegun 0 by unfold jOk; decide +kernel) (by decide) ⟨rfl, rfl⟩ hl.1 rfl (Nat.le_of_ble_eq_true rfl) ⟨Nat.zero_le _, Nat.zero_le _⟩ jd_K_start_11) ?_
  refine W.eq (g2 := F0 m 14 ls [.int (nI (if n 14 3 = 4294967295 then 0 else 1))]) rfl ?_
  refine kn_to (y := 1) (if_neg hbg) ?_
  refine kn_eq0 X.1 X.2.1 jd_K_start_14 (tgt := 27) (by decide) (by omega) (fun h14 => absurd h14 (by decide)) (fun h14 => ?_)
  exact hQ 17 121 "not sifted, or begun already" _ (by decide) hl.1 jd_K_start_17 jd_K_start_20 jd_K_start_21 jd_K_start_23 jd_K_start_26

set_option maxHeartbeats 4000000 in
theorem t_K_sample_IA (l : Launch) (d : Nat → Nat) (D : va_G) (a : Nat → Nat) (n : Nat → Nat → Nat) (g : Nat → Nat) (hlt : l.stackTraces = false) (hB : NB n) (hs : ¬ n 0 0 = 4294967295) (hbg : n 14 3 = 4294967295) (hn : n 0 0 ≤ 128) (z k : Nat) (hk : k < 4294967296) (hbad : ¬ k ≤ n 0 0) : jThr l d D a n g jy_K_sample jb_K_sample 7 (some .int) { frames := 6, cells := 1, slots := 6, locals := 82 } [.ref (a 0), .long (lN z), .int (nI k)] "java/lang/IllegalArgumentException" := by
  refine jt_T hlt 53 57 rfl (by decide) (Nat.le_of_ble_eq_true rfl) jx_fIA jm_242 jm_10 jx_gIA jx_bIA jx_oIA (by decide) ?_
  intro p e s m A below meth c ls Q X hP hl hQ
  have hl : lv_has ls 7 [(0, .ref (a 0)), (1, .long (lN z)), (3, .int (nI k))] := hl
  refine lv_aload_n X.1 X.2.1 jd_K_sample_0 rfl (lv_at hl 0 rfl) ?_
  refine j_run (j_mkV X hP (c_K_isSifted l d D a n g (hB _ _)) jU_b (j_pp X hP) jm_318 jm_317 js_8 jm_1 jm_315 (by decide) rfl rfl (show jOk jy_K_isSifted 0 by unfold jOk; decide +kernel) (by decide) ⟨rfl, rfl⟩ hl.1 rfl (Nat.le_of_ble_eq_true rfl) ⟨Nat.zero_le _, Nat.zero_le _⟩ jd_K_sample_1) ?_
  refine W.eq (g2 := F0 m 4 ls [.int (nI (if n 0 0 = 4294967295 then 0 else 1))]) rfl ?_
  refine kn_to (y := 1) (if_neg hs) ?_
  refine kn_eq0 X.1 X.2.1 jd_K_sample_4 (tgt := 17) (by decide) (by omega) (fun h4 => absurd h4 (by decide)) (fun h4 => ?_)
  refine lv_aload_n X.1 X.2.1 jd_K_sample_7 rfl (lv_at hl 0 rfl) ?_
  refine jg_K_31_0 X hP jd_K_sample_8 ?_
  refine j_run (j_mkN (host := "KeyDistiller") X hP (c_D_isBegun l d D a n g (hB _ _)) jU_b (j_pp X hP) jm_365 jm_364 js_12 jm_4 (by decide +kernel) (by decide) rfl rfl (show jOk jy_D_isBegun 0 by unfold jOk; decide +kernel) (by decide) ⟨rfl, rfl⟩ hl.1 rfl (Nat.le_of_ble_eq_true rfl) ⟨Nat.zero_le _, Nat.zero_le _⟩ jd_K_sample_11) ?_
  refine W.eq (g2 := F0 m 14 ls [.int (nI (if n 14 3 = 4294967295 then 0 else 1))]) rfl ?_
  refine kn_to (y := 0) (if_pos hbg) ?_
  refine kn_eq0 X.1 X.2.1 jd_K_sample_14 (tgt := 27) (by decide) (by omega) (fun h14 => ?_) (fun h14 => absurd h14 (by decide))
  refine lv_iload_n X.1 X.2.1 jd_K_sample_27 rfl (lv_at hl 2 rfl) ?_
  refine kn_lt0 X.1 X.2.1 jd_K_sample_28 (tgt := 39) (by decide) (by omega) (fun h28 => ?_) (fun h28 => ?_)
  · skip
    exact hQ 39 100 "no such sample" _ (by decide) hl.1 jd_K_sample_39 jd_K_sample_42 jd_K_sample_43 jd_K_sample_45 jd_K_sample_48
  · skip
    refine lv_iload_n X.1 X.2.1 jd_K_sample_31 rfl (lv_at hl 2 rfl) ?_
    refine lv_aload_n X.1 X.2.1 jd_K_sample_32 rfl (lv_at hl 0 rfl) ?_
    refine jg_K_45_0 X hP jd_K_sample_33 ?_
    refine kn_xle X.1 X.2.1 jd_K_sample_36 (tgt := 49) (by decide) (by omega) (fun h36 => absurd h36 (by omega)) (fun h36 => ?_)
    exact hQ 39 100 "no such sample" _ (by decide) hl.1 jd_K_sample_39 jd_K_sample_42 jd_K_sample_43 jd_K_sample_45 jd_K_sample_48

set_option maxHeartbeats 4000000 in
theorem t_K_start_IA (l : Launch) (d : Nat → Nat) (D : va_G) (a : Nat → Nat) (n : Nat → Nat → Nat) (g : Nat → Nat) (hlt : l.stackTraces = false) (hB : NB n) (hs : ¬ n 0 0 = 4294967295) (hbg : n 14 3 = 4294967295) (hn : n 0 0 ≤ 128) (k z : Nat) (hk : k < 4294967296) (hbad : ¬ (4 ≤ k ∧ k ≤ n 0 0)) : jThr l d D a n g jy_K_start jb_K_start 5 (some .int) { frames := 6, cells := 1, slots := 6, locals := 82 } [.ref (a 0), .int (nI k), .long (lN z)] "java/lang/IllegalArgumentException" := by
  refine jt_T hlt 53 57 rfl (by decide) (Nat.le_of_ble_eq_true rfl) jx_fIA jm_242 jm_10 jx_gIA jx_bIA jx_oIA (by decide) ?_
  intro p e s m A below meth c ls Q X hP hl hQ
  have hl : lv_has ls 5 [(0, .ref (a 0)), (1, .int (nI k)), (2, .long (lN z))] := hl
  refine lv_aload_n X.1 X.2.1 jd_K_start_0 rfl (lv_at hl 0 rfl) ?_
  refine j_run (j_mkV X hP (c_K_isSifted l d D a n g (hB _ _)) jU_b (j_pp X hP) jm_318 jm_317 js_8 jm_1 jm_315 (by decide) rfl rfl (show jOk jy_K_isSifted 0 by unfold jOk; decide +kernel) (by decide) ⟨rfl, rfl⟩ hl.1 rfl (Nat.le_of_ble_eq_true rfl) ⟨Nat.zero_le _, Nat.zero_le _⟩ jd_K_start_1) ?_
  refine W.eq (g2 := F0 m 4 ls [.int (nI (if n 0 0 = 4294967295 then 0 else 1))]) rfl ?_
  refine kn_to (y := 1) (if_neg hs) ?_
  refine kn_eq0 X.1 X.2.1 jd_K_start_4 (tgt := 17) (by decide) (by omega) (fun h4 => absurd h4 (by decide)) (fun h4 => ?_)
  refine lv_aload_n X.1 X.2.1 jd_K_start_7 rfl (lv_at hl 0 rfl) ?_
  refine jg_K_31_0 X hP jd_K_start_8 ?_
  refine j_run (j_mkN (host := "KeyDistiller") X hP (c_D_isBegun l d D a n g (hB _ _)) jU_b (j_pp X hP) jm_365 jm_364 js_12 jm_4 (by decide +kernel) (by decide) rfl rfl (show jOk jy_D_isBegun 0 by unfold jOk; decide +kernel) (by decide) ⟨rfl, rfl⟩ hl.1 rfl (Nat.le_of_ble_eq_true rfl) ⟨Nat.zero_le _, Nat.zero_le _⟩ jd_K_start_11) ?_
  refine W.eq (g2 := F0 m 14 ls [.int (nI (if n 14 3 = 4294967295 then 0 else 1))]) rfl ?_
  refine kn_to (y := 0) (if_pos hbg) ?_
  refine kn_eq0 X.1 X.2.1 jd_K_start_14 (tgt := 27) (by decide) (by omega) (fun h14 => ?_) (fun h14 => absurd h14 (by decide))
  refine lv_iload_n X.1 X.2.1 jd_K_start_27 rfl (lv_at hl 1 rfl) ?_
  refine lv_iconst (v := nI 4) X.1 X.2.1 jd_K_start_28 (by decide) ?_
  refine kn_xlt X.1 X.2.1 jd_K_start_29 (tgt := 40) (by decide) (by omega) (fun h29 => ?_) (fun h29 => ?_)
  · skip
    exact hQ 40 123 "no such size" _ (by decide) hl.1 jd_K_start_40 jd_K_start_43 jd_K_start_44 jd_K_start_46 jd_K_start_49
  · skip
    refine lv_iload_n X.1 X.2.1 jd_K_start_32 rfl (lv_at hl 1 rfl) ?_
    refine lv_aload_n X.1 X.2.1 jd_K_start_33 rfl (lv_at hl 0 rfl) ?_
    refine jg_K_45_0 X hP jd_K_start_34 ?_
    refine kn_xle X.1 X.2.1 jd_K_start_37 (tgt := 50) (by decide) (by omega) (fun h37 => absurd h37 (by omega)) (fun h37 => ?_)
    exact hQ 40 123 "no such size" _ (by decide) hl.1 jd_K_start_40 jd_K_start_43 jd_K_start_44 jd_K_start_46 jd_K_start_49

set_option maxHeartbeats 4000000 in
theorem c_K_start (l : Launch) (d : Nat → Nat) (D : va_G) (a : Nat → Nat) (n : Nat → Nat → Nat) (g : Nat → Nat) (hap : ∀ i j : Nat, i < 52 → j < 52 → a i = a j → i = j) (hB : NB n) (hs : ¬ n 0 0 = 4294967295) (hbg : n 14 3 = 4294967295) (hn : n 0 0 ≤ 128) (k z : Nat) (h4 : 4 ≤ k) (hk : k ≤ n 0 0) (hD : DI (bgF (stO n z 4) k (n 0 0))) : jEff l d D a n g jy_K_start jb_K_start 5 (some .int) { frames := 6, cells := 0, slots := 0, locals := 142 } [.ref (a 0), .int (nI k), .long (lN z)] (fun v9 n2 g2 => some (.int (nI ((goF (bgF (stO n z 4) k (n 0 0)) 256).1 15 0))) = v9 ∧ (goF (bgF (stO n z 4) k (n 0 0)) 256).1 = n2 ∧ kg g 0 (stS n (g 0) z 4) = g2) := by
  refine je_I (by decide) (Nat.le_of_ble_eq_true rfl) ?_
  intro p e s m A below meth c ls Q X hP hS hl hQ
  have hl : lv_has ls 5 [(0, .ref (a 0)), (1, .int (nI k)), (2, .long (lN z))] := hl
  refine lv_aload_n X.1 X.2.1 jd_K_start_0 rfl (lv_at hl 0 rfl) ?_
  refine j_run (j_mkV X hP (c_K_isSifted l d D a n g (hB _ _)) jU_b (j_pp X hP) jm_318 jm_317 js_8 jm_1 jm_315 (by decide) rfl rfl (show jOk jy_K_isSifted 0 by unfold jOk; decide +kernel) (by decide) ⟨rfl, rfl⟩ hl.1 rfl (Nat.le_of_ble_eq_true rfl) ⟨Nat.zero_le _, Nat.zero_le _⟩ jd_K_start_1) ?_
  refine W.eq (g2 := F0 m 4 ls [.int (nI (if n 0 0 = 4294967295 then 0 else 1))]) rfl ?_
  refine kn_to (y := 1) (if_neg hs) ?_
  refine kn_eq0 X.1 X.2.1 jd_K_start_4 (tgt := 17) (by decide) (by omega) (fun h4 => absurd h4 (by decide)) (fun h4 => ?_)
  refine lv_aload_n X.1 X.2.1 jd_K_start_7 rfl (lv_at hl 0 rfl) ?_
  refine jg_K_31_0 X hP jd_K_start_8 ?_
  refine j_run (j_mkN (host := "KeyDistiller") X hP (c_D_isBegun l d D a n g (hB _ _)) jU_b (j_pp X hP) jm_365 jm_364 js_12 jm_4 (by decide +kernel) (by decide) rfl rfl (show jOk jy_D_isBegun 0 by unfold jOk; decide +kernel) (by decide) ⟨rfl, rfl⟩ hl.1 rfl (Nat.le_of_ble_eq_true rfl) ⟨Nat.zero_le _, Nat.zero_le _⟩ jd_K_start_11) ?_
  refine W.eq (g2 := F0 m 14 ls [.int (nI (if n 14 3 = 4294967295 then 0 else 1))]) rfl ?_
  refine kn_to (y := 0) (if_pos hbg) ?_
  refine kn_eq0 X.1 X.2.1 jd_K_start_14 (tgt := 27) (by decide) (by omega) (fun h14 => ?_) (fun h14 => absurd h14 (by decide))
  refine lv_iload_n X.1 X.2.1 jd_K_start_27 rfl (lv_at hl 1 rfl) ?_
  refine lv_iconst (v := nI 4) X.1 X.2.1 jd_K_start_28 (by decide) ?_
  refine kn_clt X.1 X.2.1 jd_K_start_29 (tgt := 40) (by decide) (by omega) (fun h29 => absurd h29 (by omega)) (fun h29 => ?_)
  refine lv_iload_n X.1 X.2.1 jd_K_start_32 rfl (lv_at hl 1 rfl) ?_
  refine lv_aload_n X.1 X.2.1 jd_K_start_33 rfl (lv_at hl 0 rfl) ?_
  refine jg_K_45_0 X hP jd_K_start_34 ?_
  refine kn_cle X.1 X.2.1 jd_K_start_37 (tgt := 50) (by decide) (by omega) (fun h37 => ?_) (fun h37 => absurd h37 (by omega))
  refine lv_iconst (v := nI 0) X.1 X.2.1 jd_K_start_50 (by decide) ?_
  refine lv_istore X.1 X.2.1 jd_K_start_51 hl (by decide) rfl (fun ls hl => ?_)
  have hl : lv_has ls 5 [(4, .int (nI 0)), (0, .ref (a 0)), (1, .int (nI k)), (2, .long (lN z))] := hl
  have loop53 : ∀ (r i : Nat) (H : Heap) (locs : List Loc) (ls : Array Slot), i + r = 4 → va_P D jCl (jW d a (stO n z i) (kg g 0 (stS n (g 0) z i))) H → va_S (jAa a s.heap.size) s.heap H locs → lv_has ls 5 [(4, .int (nI i)), (0, .ref (a 0)), (1, .int (nI k)), (2, .long (lN z))] → W p l e { frames := 6, cells := 0, slots := 0, locals := 142 } s m A below meth c H locs 0 0 Q (F0 m 53 ls []) := by
    intro r
    induction r with
    | zero => 
      intro i H locs ls hi hP hS hl
      obtain rfl : 4 = i := by omega
      refine lv_iload X.1 X.2.1 jd_K_start_53 (lv_at hl 0 rfl) ?_
      refine lv_iconst (v := nI 4) X.1 X.2.1 jd_K_start_55 (by decide) ?_
      refine kn_cge X.1 X.2.1 jd_K_start_56 (tgt := 91) (by decide) (by omega) (fun h56 => ?_) (fun h56 => absurd h56 (by omega))
      refine lv_aload_n X.1 X.2.1 jd_K_start_91 rfl (lv_at hl 1 rfl) ?_
      refine jg_K_31_0 X hP jd_K_start_92 ?_
      refine lv_iload_n X.1 X.2.1 jd_K_start_95 rfl (lv_at hl 2 rfl) ?_
      refine lv_aload_n X.1 X.2.1 jd_K_start_96 rfl (lv_at hl 1 rfl) ?_
      refine jg_K_45_0 X hP jd_K_start_97 ?_
      refine kn_to (y := n 0 0) (congrFun (stO_o (fun p hp => by omega) 4 (by omega)) 0) ?_
      refine j_rune (j_mkN (host := "KeyDistiller") X hP (c_D_begin l d D a (stO n z 4) (kg g 0 (stS n (g 0) z 4)) hap k (n 0 0) hD _) jU_bs (j_pe X hP) jm_407 jm_406 js_18 jm_4 (by decide +kernel) (by decide) rfl rfl (show jOk jy_D_begin 2 by unfold jOk; decide +kernel) (by decide) ⟨rfl, rfl⟩ hl.1 rfl (Nat.le_of_ble_eq_true rfl) ⟨Nat.zero_le _, Nat.zero_le _⟩ jd_K_start_100) hS (fun v100 n100 g100 H locs h100 hP hS => ?_)
      obtain ⟨rfl, rfl, rfl⟩ := h100
      refine W.eq (g2 := F0 m 103 ls []) rfl ?_
      refine lv_aload_n X.1 X.2.1 jd_K_start_103 rfl (lv_at hl 1 rfl) ?_
      refine jg_K_31_0 X hP jd_K_start_104 ?_
      refine jg_K_133_14 X hP jd_K_start_107 ?_
      refine jg_K_137_15 X hP jd_K_start_110 ?_
      exact hQ _ _ _ _ _ _ _ (⟨rfl, rfl, rfl⟩) hP hS jd_K_start_113
    | succ r ihr => 
      intro i H locs ls hi hP hS hl
      refine lv_iload X.1 X.2.1 jd_K_start_53 (lv_at hl 0 rfl) ?_
      refine lv_iconst (v := nI 4) X.1 X.2.1 jd_K_start_55 (by decide) ?_
      refine kn_cge X.1 X.2.1 jd_K_start_56 (tgt := 91) (by decide) (by omega) (fun h56 => absurd h56 (by omega)) (fun h56 => ?_)
      refine lv_aload_n X.1 X.2.1 jd_K_start_59 rfl (lv_at hl 1 rfl) ?_
      refine jg_K_22_0 X hP jd_K_start_60 ?_
      refine lv_lload_n X.1 X.2.1 jd_K_start_63 rfl (lv_at hl 3 rfl) ?_
      refine lv_iload X.1 X.2.1 jd_K_start_64 (lv_at hl 0 rfl) ?_
      refine lv_i2l (v := lN i) X.1 X.2.1 jd_K_start_66 (nI_l (by omega)) ?_
      refine kn_ladd X.1 X.2.1 jd_K_start_67 ?_
      refine lv_aload_n X.1 X.2.1 jd_K_start_68 rfl (lv_at hl 1 rfl) ?_
      refine jg_K_45_0 X hP jd_K_start_69 ?_
      refine kn_to (y := n 0 0) (congrFun (stO_o (fun p hp => by omega) i (by omega)) 0) ?_
      refine lv_aload_n X.1 X.2.1 jd_K_start_72 rfl (lv_at hl 1 rfl) ?_
      refine jg_K_31_0 X hP jd_K_start_73 ?_
      refine jg_K_125_14 X hP jd_K_start_76 ?_
      refine lv_iload X.1 X.2.1 jd_K_start_79 (lv_at hl 0 rfl) ?_
      refine j_aald X hP 19 i (by decide) (by omega) jd_K_start_81 ?_
      refine j_rune (j_mkN (host := "KeyDistiller") X hP (c_G_shuffleF l d D a (stO n z i) (kg g 0 (stS n (g 0) z i)) hap (20 + i) (n 0 0) (z + i) (by omega) (jI_or (by omega)) hn _) jU_bs (j_pe X hP) jm_371 jm_370 js_13 jm_3 (by decide +kernel) (by decide) rfl rfl (show jOk jy_G_shuffle 3 by unfold jOk; decide +kernel) (by decide) ⟨rfl, rfl⟩ hl.1 rfl (Nat.le_of_ble_eq_true rfl) ⟨Nat.zero_le _, Nat.zero_le _⟩ jd_K_start_82) hS (fun v82 n82 g82 H locs h82 hP hS => ?_)
      obtain ⟨rfl, rfl, rfl⟩ := h82
      rw [kg_kg] at hP
      refine W.eq (g2 := F0 m 85 ls []) rfl ?_
      refine lv_iinc (k := 0) (v := nI (i + 1)) X.1 X.2.1 jd_K_start_85 hl rfl (kn_inc _) (by decide) rfl (fun ls hl => ?_)
      have hl : lv_has ls 5 [(4, .int (nI (i + 1))), (0, .ref (a 0)), (1, .int (nI k)), (2, .long (lN z))] := hl
      refine lv_goto X.1 X.2.1 jd_K_start_88 (tgt := 53) (by decide) ?_
      have hl : lv_has ls 5 [(4, .int (nI (i + 1))), (0, .ref (a 0)), (1, .int (nI k)), (2, .long (lN z))] := lv_sub hl [0, 1, 2, 3] rfl
      exact ihr (i + 1) H locs ls (by omega) hP hS hl
  have hP : va_P D jCl (jW d a (stO n z 0) (kg g 0 (stS n (g 0) z 0))) s.heap := by show va_P D jCl (jW d a n (kg g 0 (g 0))) s.heap; rw [kg_self]; exact hP
  have hl : lv_has ls 5 [(4, .int (nI 0)), (0, .ref (a 0)), (1, .int (nI k)), (2, .long (lN z))] := lv_sub hl [0, 1, 2, 3] rfl
  exact loop53 (4) 0 s.heap [] ls (by omega) hP hS hl

set_option maxHeartbeats 4000000 in
theorem c_K_bit_1 (l : Launch) (d : Nat → Nat) (D : va_G) (a : Nat → Nat) (n : Nat → Nat → Nat) (g : Nat → Nat) (hB : NB n) (i : Nat) (hs : ¬ n 0 0 = 4294967295) (hi : i < n 0 0) (hn : n 0 0 ≤ 128) : jPure l d D a n g jy_K_bit jb_K_bit 3 (some .int) { frames := 1, cells := 0, slots := 0, locals := 21 } [.ref (a 0), .int (nI 0), .int (nI i)] (some (.int (nI (n 6 i)))) := by
  refine jq_I (by decide) (Nat.le_of_ble_eq_true rfl) ?_
  intro p e s m A below meth c ls Q X hP hl hQ
  have hl : lv_has ls 3 [(0, .ref (a 0)), (1, .int (nI 0)), (2, .int (nI i))] := hl
  refine lv_aload_n X.1 X.2.1 jd_K_bit_0 rfl (lv_at hl 0 rfl) ?_
  refine j_run (j_mkV X hP (c_K_isSifted l d D a n g (hB _ _)) jU_b (j_pp X hP) jm_318 jm_317 js_8 jm_1 jm_315 (by decide) rfl rfl (show jOk jy_K_isSifted 0 by unfold jOk; decide +kernel) (by decide) ⟨rfl, rfl⟩ hl.1 rfl (Nat.le_of_ble_eq_true rfl) ⟨Nat.zero_le _, Nat.zero_le _⟩ jd_K_bit_1) ?_
  refine W.eq (g2 := F0 m 4 ls [.int (nI (if n 0 0 = 4294967295 then 0 else 1))]) rfl ?_
  refine kn_to (y := 1) (if_neg hs) ?_
  refine kn_ne0 X.1 X.2.1 jd_K_bit_4 (tgt := 17) (by decide) (by omega) (fun h4 => ?_) (fun h4 => absurd h4 (by decide))
  refine lv_iload_n X.1 X.2.1 jd_K_bit_17 rfl (lv_at hl 1 rfl) ?_
  refine j_run (j_mkS X (c_K_isStation l d D a n g 0 (by decide)) jU_b (j_pp X hP) jm_241 jm_240 jm_1 jm_239 (show jOk jy_K_isStation 1 by unfold jOk; decide +kernel) (by decide) ⟨rfl, rfl⟩ hl.1 rfl (Nat.le_of_ble_eq_true rfl) ⟨Nat.zero_le _, Nat.zero_le _⟩ jd_K_bit_18) ?_
  refine W.eq (g2 := F0 m 21 ls [.int (nI (if 0 < 2 then 1 else 0))]) rfl ?_
  refine kn_to (y := 1) (rfl) ?_
  refine kn_eq0 X.1 X.2.1 jd_K_bit_21 (tgt := 36) (by decide) (by omega) (fun h21 => absurd h21 (by decide)) (fun h21 => ?_)
  refine lv_iload_n X.1 X.2.1 jd_K_bit_24 rfl (lv_at hl 2 rfl) ?_
  refine kn_lt0 X.1 X.2.1 jd_K_bit_25 (tgt := 36) (by decide) (by omega) (fun h25 => absurd h25 (by omega)) (fun h25 => ?_)
  refine lv_iload_n X.1 X.2.1 jd_K_bit_28 rfl (lv_at hl 2 rfl) ?_
  refine lv_aload_n X.1 X.2.1 jd_K_bit_29 rfl (lv_at hl 0 rfl) ?_
  refine jg_K_45_0 X hP jd_K_bit_30 ?_
  refine kn_clt X.1 X.2.1 jd_K_bit_33 (tgt := 46) (by decide) (by omega) (fun h33 => ?_) (fun h33 => absurd h33 (by omega))
  refine lv_aload_n X.1 X.2.1 jd_K_bit_46 rfl (lv_at hl 0 rfl) ?_
  refine lv_iload_n X.1 X.2.1 jd_K_bit_47 rfl (lv_at hl 1 rfl) ?_
  refine j_run (j_mkV X hP (c_K_stationOf_0 l d D a n g) jU_b (j_pp X hP) jm_314 jm_313 js_7 jm_1 jm_311 (by decide) rfl rfl (show jOk jy_K_stationOf 1 by unfold jOk; decide +kernel) (by decide) ⟨rfl, rfl⟩ hl.1 rfl (Nat.le_of_ble_eq_true rfl) ⟨Nat.zero_le _, Nat.zero_le _⟩ jd_K_bit_48) ?_
  refine W.eq (g2 := F0 m 51 ls [.ref (a 1)]) rfl ?_
  refine jg_K_89_1 X hP jd_K_bit_51 ?_
  refine lv_iload_n X.1 X.2.1 jd_K_bit_54 rfl (lv_at hl 2 rfl) ?_
  refine j_ald X hP 6 i (by decide) (show i < 128 from by omega) (by decide) jd_K_bit_55 ?_
  exact kn_to (by first | rfl | omega | (split <;> omega)) (hQ _ _ jd_K_bit_56)

set_option maxHeartbeats 4000000 in
theorem c_K_tag_1 (l : Launch) (d : Nat → Nat) (D : va_G) (a : Nat → Nat) (n : Nat → Nat → Nat) (g : Nat → Nat) (hB : NB n) (x : Nat) (hs : ¬ n 0 0 = 4294967295) (hx1 : 1 ≤ x) (hx2 : x ≤ 65535) (hn : n 0 0 ≤ 128) (h01 : ∀ i, n 6 i < 2) : jPure l d D a n g jy_K_tag jb_K_tag 3 (some .int) { frames := 2, cells := 0, slots := 0, locals := 48 } [.ref (a 0), .int (nI 0), .int (nI x)] (some (.int (nI (tagF (n 6) x (n 0 0))))) := by
  refine jq_I (by decide) (Nat.le_of_ble_eq_true rfl) ?_
  intro p e s m A below meth c ls Q X hP hl hQ
  have hl : lv_has ls 3 [(0, .ref (a 0)), (1, .int (nI 0)), (2, .int (nI x))] := hl
  refine lv_aload_n X.1 X.2.1 jd_K_tag_0 rfl (lv_at hl 0 rfl) ?_
  refine j_run (j_mkV X hP (c_K_isSifted l d D a n g (hB _ _)) jU_b (j_pp X hP) jm_318 jm_317 js_8 jm_1 jm_315 (by decide) rfl rfl (show jOk jy_K_isSifted 0 by unfold jOk; decide +kernel) (by decide) ⟨rfl, rfl⟩ hl.1 rfl (Nat.le_of_ble_eq_true rfl) ⟨Nat.zero_le _, Nat.zero_le _⟩ jd_K_tag_1) ?_
  refine W.eq (g2 := F0 m 4 ls [.int (nI (if n 0 0 = 4294967295 then 0 else 1))]) rfl ?_
  refine kn_to (y := 1) (if_neg hs) ?_
  refine kn_ne0 X.1 X.2.1 jd_K_tag_4 (tgt := 17) (by decide) (by omega) (fun h4 => ?_) (fun h4 => absurd h4 (by decide))
  refine lv_iload_n X.1 X.2.1 jd_K_tag_17 rfl (lv_at hl 1 rfl) ?_
  refine j_run (j_mkS X (c_K_isStation l d D a n g 0 (by decide)) jU_b (j_pp X hP) jm_241 jm_240 jm_1 jm_239 (show jOk jy_K_isStation 1 by unfold jOk; decide +kernel) (by decide) ⟨rfl, rfl⟩ hl.1 rfl (Nat.le_of_ble_eq_true rfl) ⟨Nat.zero_le _, Nat.zero_le _⟩ jd_K_tag_18) ?_
  refine W.eq (g2 := F0 m 21 ls [.int (nI (if 0 < 2 then 1 else 0))]) rfl ?_
  refine kn_to (y := 1) (rfl) ?_
  refine kn_eq0 X.1 X.2.1 jd_K_tag_21 (tgt := 31) (by decide) (by omega) (fun h21 => absurd h21 (by decide)) (fun h21 => ?_)
  refine lv_iload_n X.1 X.2.1 jd_K_tag_24 rfl (lv_at hl 2 rfl) ?_
  refine j_run (j_mkS X (c_K_isTagNumber l d D a n g x (by omega)) jU_b (j_pp X hP) jm_546 jm_545 jm_1 jm_544 (show jOk jy_K_isTagNumber 1 by unfold jOk; decide +kernel) (by decide) ⟨rfl, rfl⟩ hl.1 rfl (Nat.le_of_ble_eq_true rfl) ⟨Nat.zero_le _, Nat.zero_le _⟩ jd_K_tag_25) ?_
  refine W.eq (g2 := F0 m 28 ls [.int (nI (if 1 ≤ x ∧ x ≤ 65535 then 1 else 0))]) rfl ?_
  refine kn_to (y := 1) (if_pos ⟨hx1, hx2⟩) ?_
  refine kn_ne0 X.1 X.2.1 jd_K_tag_28 (tgt := 41) (by decide) (by omega) (fun h28 => ?_) (fun h28 => absurd h28 (by decide))
  refine lv_aload_n X.1 X.2.1 jd_K_tag_41 rfl (lv_at hl 0 rfl) ?_
  refine lv_iload_n X.1 X.2.1 jd_K_tag_42 rfl (lv_at hl 1 rfl) ?_
  refine j_run (j_mkV X hP (c_K_stationOf_0 l d D a n g) jU_b (j_pp X hP) jm_314 jm_313 js_7 jm_1 jm_311 (by decide) rfl rfl (show jOk jy_K_stationOf 1 by unfold jOk; decide +kernel) (by decide) ⟨rfl, rfl⟩ hl.1 rfl (Nat.le_of_ble_eq_true rfl) ⟨Nat.zero_le _, Nat.zero_le _⟩ jd_K_tag_43) ?_
  refine W.eq (g2 := F0 m 46 ls [.ref (a 1)]) rfl ?_
  refine lv_iload_n X.1 X.2.1 jd_K_tag_46 rfl (lv_at hl 2 rfl) ?_
  refine lv_aload_n X.1 X.2.1 jd_K_tag_47 rfl (lv_at hl 0 rfl) ?_
  refine jg_K_45_0 X hP jd_K_tag_48 ?_
  refine j_run (j_mkN (host := "KeyDistiller") X hP (c_S_tagWith_1 l d D a n g x (n 0 0) (by omega) hn h01) jU_b (j_pp X hP) jm_552 jm_551 js_36 jm_2 (by decide +kernel) (by decide) rfl rfl (show jOk jy_S_tagWith 2 by unfold jOk; decide +kernel) (by decide) ⟨rfl, rfl⟩ hl.1 rfl (Nat.le_of_ble_eq_true rfl) ⟨Nat.zero_le _, Nat.zero_le _⟩ jd_K_tag_51) ?_
  refine W.eq (g2 := F0 m 54 ls [.int (nI (tagF (n 6) x (n 0 0)))]) rfl ?_
  exact kn_to (by first | rfl | omega | (split <;> omega)) (hQ _ _ jd_K_tag_54)

set_option maxHeartbeats 4000000 in
theorem c_K_key_1 (l : Launch) (d : Nat → Nat) (D : va_G) (a : Nat → Nat) (n : Nat → Nat → Nat) (g : Nat → Nat) (hB : NB n) (i : Nat) (hi : i < n 0 3) (h3 : n 0 3 ≤ 128) (hn : n 0 0 ≤ 128) : jPure l d D a n g jy_K_key jb_K_key 6 (some .int) { frames := 1, cells := 0, slots := 0, locals := 21 } [.ref (a 0), .int (nI 0), .int (nI i)] (some (.int (nI (kyF (n 6) (n 32) (n 0 3 - 1 - i) (n 0 0))))) := by
  refine jq_I (by decide) (Nat.le_of_ble_eq_true rfl) ?_
  intro p e s m A below meth c ls Q X hP hl hQ
  have hl : lv_has ls 6 [(0, .ref (a 0)), (1, .int (nI 0)), (2, .int (nI i))] := hl
  refine lv_iload_n X.1 X.2.1 jd_K_key_0 rfl (lv_at hl 1 rfl) ?_
  refine j_run (j_mkS X (c_K_isStation l d D a n g 0 (by decide)) jU_b (j_pp X hP) jm_241 jm_240 jm_1 jm_239 (show jOk jy_K_isStation 1 by unfold jOk; decide +kernel) (by decide) ⟨rfl, rfl⟩ hl.1 rfl (Nat.le_of_ble_eq_true rfl) ⟨Nat.zero_le _, Nat.zero_le _⟩ jd_K_key_1) ?_
  refine W.eq (g2 := F0 m 4 ls [.int (nI (if 0 < 2 then 1 else 0))]) rfl ?_
  refine kn_to (y := 1) (rfl) ?_
  refine kn_eq0 X.1 X.2.1 jd_K_key_4 (tgt := 19) (by decide) (by omega) (fun h4 => absurd h4 (by decide)) (fun h4 => ?_)
  refine lv_iload_n X.1 X.2.1 jd_K_key_7 rfl (lv_at hl 2 rfl) ?_
  refine kn_lt0 X.1 X.2.1 jd_K_key_8 (tgt := 19) (by decide) (by omega) (fun h8 => absurd h8 (by omega)) (fun h8 => ?_)
  refine lv_iload_n X.1 X.2.1 jd_K_key_11 rfl (lv_at hl 2 rfl) ?_
  refine lv_aload_n X.1 X.2.1 jd_K_key_12 rfl (lv_at hl 0 rfl) ?_
  refine jg_K_226_0 X hP jd_K_key_13 ?_
  refine kn_clt X.1 X.2.1 jd_K_key_16 (tgt := 29) (by decide) (by omega) (fun h16 => ?_) (fun h16 => absurd h16 (by omega))
  refine lv_aload_n X.1 X.2.1 jd_K_key_29 rfl (lv_at hl 0 rfl) ?_
  refine lv_iload_n X.1 X.2.1 jd_K_key_30 rfl (lv_at hl 1 rfl) ?_
  refine j_run (j_mkV X hP (c_K_stationOf_0 l d D a n g) jU_b (j_pp X hP) jm_314 jm_313 js_7 jm_1 jm_311 (by decide) rfl rfl (show jOk jy_K_stationOf 1 by unfold jOk; decide +kernel) (by decide) ⟨rfl, rfl⟩ hl.1 rfl (Nat.le_of_ble_eq_true rfl) ⟨Nat.zero_le _, Nat.zero_le _⟩ jd_K_key_31) ?_
  refine W.eq (g2 := F0 m 34 ls [.ref (a 1)]) rfl ?_
  refine jg_K_89_1 X hP jd_K_key_34 ?_
  refine lv_astore_n X.1 X.2.1 jd_K_key_37 rfl hl (by decide) rfl (fun ls hl => ?_)
  have hl : lv_has ls 6 [(3, .ref (a 6)), (0, .ref (a 0)), (1, .int (nI 0)), (2, .int (nI i))] := hl
  refine lv_iconst (v := nI 0) X.1 X.2.1 jd_K_key_38 (by decide) ?_
  refine lv_istore X.1 X.2.1 jd_K_key_39 hl (by decide) rfl (fun ls hl => ?_)
  have hl : lv_has ls 6 [(4, .int (nI 0)), (3, .ref (a 6)), (0, .ref (a 0)), (1, .int (nI 0)), (2, .int (nI i))] := hl
  refine lv_iconst (v := nI 0) X.1 X.2.1 jd_K_key_41 (by decide) ?_
  refine lv_istore X.1 X.2.1 jd_K_key_42 hl (by decide) rfl (fun ls hl => ?_)
  have hl : lv_has ls 6 [(5, .int (nI 0)), (4, .int (nI 0)), (3, .ref (a 6)), (0, .ref (a 0)), (1, .int (nI 0)), (2, .int (nI i))] := hl
  have loop44 : ∀ (r k : Nat) (ls : Array Slot), k + r = n 0 0 → lv_has ls 6 [(5, .int (nI k)), (4, .int (nI (kyF (n 6) (n 32) (n 0 3 - 1 - i) k))), (3, .ref (a 6)), (0, .ref (a 0)), (1, .int (nI 0)), (2, .int (nI i))] → W p l e { frames := 1, cells := 0, slots := 0, locals := 21 } s m A below meth c s.heap [] 0 0 Q (F0 m 44 ls []) := by
    intro r
    induction r with
    | zero => 
      intro k ls hk hl
      obtain rfl : n 0 0 = k := by omega
      refine lv_iload X.1 X.2.1 jd_K_key_44 (lv_at hl 0 rfl) ?_
      refine lv_aload_n X.1 X.2.1 jd_K_key_46 rfl (lv_at hl 3 rfl) ?_
      refine jg_K_45_0 X hP jd_K_key_47 ?_
      refine kn_cge X.1 X.2.1 jd_K_key_50 (tgt := 85) (by decide) (by omega) (fun h50 => ?_) (fun h50 => absurd h50 (by omega))
      refine lv_iload X.1 X.2.1 jd_K_key_85 (lv_at hl 1 rfl) ?_
      exact kn_to (by first | rfl | omega | (split <;> omega)) (hQ _ _ jd_K_key_87)
    | succ r ihr => 
      intro k ls hk hl
      refine lv_iload X.1 X.2.1 jd_K_key_44 (lv_at hl 0 rfl) ?_
      refine lv_aload_n X.1 X.2.1 jd_K_key_46 rfl (lv_at hl 3 rfl) ?_
      refine jg_K_45_0 X hP jd_K_key_47 ?_
      refine kn_cge X.1 X.2.1 jd_K_key_50 (tgt := 85) (by decide) (by omega) (fun h50 => absurd h50 (by omega)) (fun h50 => ?_)
      refine lv_iload X.1 X.2.1 jd_K_key_53 (lv_at hl 1 rfl) ?_
      refine lv_aload_n X.1 X.2.1 jd_K_key_55 rfl (lv_at hl 2 rfl) ?_
      refine lv_iload X.1 X.2.1 jd_K_key_56 (lv_at hl 0 rfl) ?_
      refine j_ald X hP 6 k (by decide) (show k < 128 from by omega) (by decide) jd_K_key_58 ?_
      refine lv_aload_n X.1 X.2.1 jd_K_key_59 rfl (lv_at hl 3 rfl) ?_
      refine jg_K_42_0 X hP jd_K_key_60 ?_
      refine lv_iload X.1 X.2.1 jd_K_key_63 (lv_at hl 0 rfl) ?_
      refine lv_aload_n X.1 X.2.1 jd_K_key_65 rfl (lv_at hl 3 rfl) ?_
      refine jg_K_226_0 X hP jd_K_key_66 ?_
      refine kn_iadd X.1 X.2.1 jd_K_key_69 ?_
      refine lv_iconst (v := nI 1) X.1 X.2.1 jd_K_key_70 (by decide) ?_
      refine kn_isub X.1 X.2.1 jd_K_key_71 (by omega) ?_
      refine lv_iload_n X.1 X.2.1 jd_K_key_72 rfl (lv_at hl 5 rfl) ?_
      refine kn_isub X.1 X.2.1 jd_K_key_73 (by omega) ?_
      refine kn_to (y := k + (n 0 3 - 1 - i)) (by omega) ?_
      refine j_ald X hP 32 (k + (n 0 3 - 1 - i)) (by decide) (show (k + (n 0 3 - 1 - i)) < 256 from by omega) (by decide) jd_K_key_74 ?_
      refine kn_iand X.1 X.2.1 jd_K_key_75 ?_
      refine kn_ixor X.1 X.2.1 jd_K_key_76 ?_
      refine lv_istore X.1 X.2.1 jd_K_key_77 hl (by decide) rfl (fun ls hl => ?_)
      have hl : lv_has ls 6 [(4, .int (nI ((kyF (n 6) (n 32) (n 0 3 - 1 - i) k) ^^^ ((n 6 k) &&& (n 32 (k + (n 0 3 - 1 - i))))))), (5, .int (nI k)), (3, .ref (a 6)), (0, .ref (a 0)), (1, .int (nI 0)), (2, .int (nI i))] := hl
      refine lv_iinc (k := 1) (v := nI (k + 1)) X.1 X.2.1 jd_K_key_79 hl rfl (kn_inc _) (by decide) rfl (fun ls hl => ?_)
      have hl : lv_has ls 6 [(5, .int (nI (k + 1))), (4, .int (nI ((kyF (n 6) (n 32) (n 0 3 - 1 - i) k) ^^^ ((n 6 k) &&& (n 32 (k + (n 0 3 - 1 - i))))))), (3, .ref (a 6)), (0, .ref (a 0)), (1, .int (nI 0)), (2, .int (nI i))] := hl
      refine lv_goto X.1 X.2.1 jd_K_key_82 (tgt := 44) (by decide) ?_
      have hl : lv_has ls 6 [(5, .int (nI (k + 1))), (4, .int (nI (kyF (n 6) (n 32) (n 0 3 - 1 - i) (k + 1)))), (3, .ref (a 6)), (0, .ref (a 0)), (1, .int (nI 0)), (2, .int (nI i))] := lv_sub hl [0, 1, 2, 3, 4, 5] rfl
      exact ihr (k + 1) ls (by omega) hl
  have hl : lv_has ls 6 [(5, .int (nI 0)), (4, .int (nI (kyF (n 6) (n 32) (n 0 3 - 1 - i) 0))), (3, .ref (a 6)), (0, .ref (a 0)), (1, .int (nI 0)), (2, .int (nI i))] := lv_sub hl [0, 1, 2, 3, 4, 5] rfl
  exact loop44 (n 0 0) 0 ls (by omega) hl

set_option maxHeartbeats 4000000 in
theorem c_K_bit_7 (l : Launch) (d : Nat → Nat) (D : va_G) (a : Nat → Nat) (n : Nat → Nat → Nat) (g : Nat → Nat) (hB : NB n) (i : Nat) (hs : ¬ n 0 0 = 4294967295) (hi : i < n 0 0) (hn : n 0 0 ≤ 128) : jPure l d D a n g jy_K_bit jb_K_bit 3 (some .int) { frames := 1, cells := 0, slots := 0, locals := 21 } [.ref (a 0), .int (nI 1), .int (nI i)] (some (.int (nI (n 12 i)))) := by
  refine jq_I (by decide) (Nat.le_of_ble_eq_true rfl) ?_
  intro p e s m A below meth c ls Q X hP hl hQ
  have hl : lv_has ls 3 [(0, .ref (a 0)), (1, .int (nI 1)), (2, .int (nI i))] := hl
  refine lv_aload_n X.1 X.2.1 jd_K_bit_0 rfl (lv_at hl 0 rfl) ?_
  refine j_run (j_mkV X hP (c_K_isSifted l d D a n g (hB _ _)) jU_b (j_pp X hP) jm_318 jm_317 js_8 jm_1 jm_315 (by decide) rfl rfl (show jOk jy_K_isSifted 0 by unfold jOk; decide +kernel) (by decide) ⟨rfl, rfl⟩ hl.1 rfl (Nat.le_of_ble_eq_true rfl) ⟨Nat.zero_le _, Nat.zero_le _⟩ jd_K_bit_1) ?_
  refine W.eq (g2 := F0 m 4 ls [.int (nI (if n 0 0 = 4294967295 then 0 else 1))]) rfl ?_
  refine kn_to (y := 1) (if_neg hs) ?_
  refine kn_ne0 X.1 X.2.1 jd_K_bit_4 (tgt := 17) (by decide) (by omega) (fun h4 => ?_) (fun h4 => absurd h4 (by decide))
  refine lv_iload_n X.1 X.2.1 jd_K_bit_17 rfl (lv_at hl 1 rfl) ?_
  refine j_run (j_mkS X (c_K_isStation l d D a n g 1 (by decide)) jU_b (j_pp X hP) jm_241 jm_240 jm_1 jm_239 (show jOk jy_K_isStation 1 by unfold jOk; decide +kernel) (by decide) ⟨rfl, rfl⟩ hl.1 rfl (Nat.le_of_ble_eq_true rfl) ⟨Nat.zero_le _, Nat.zero_le _⟩ jd_K_bit_18) ?_
  refine W.eq (g2 := F0 m 21 ls [.int (nI (if 1 < 2 then 1 else 0))]) rfl ?_
  refine kn_to (y := 1) (rfl) ?_
  refine kn_eq0 X.1 X.2.1 jd_K_bit_21 (tgt := 36) (by decide) (by omega) (fun h21 => absurd h21 (by decide)) (fun h21 => ?_)
  refine lv_iload_n X.1 X.2.1 jd_K_bit_24 rfl (lv_at hl 2 rfl) ?_
  refine kn_lt0 X.1 X.2.1 jd_K_bit_25 (tgt := 36) (by decide) (by omega) (fun h25 => absurd h25 (by omega)) (fun h25 => ?_)
  refine lv_iload_n X.1 X.2.1 jd_K_bit_28 rfl (lv_at hl 2 rfl) ?_
  refine lv_aload_n X.1 X.2.1 jd_K_bit_29 rfl (lv_at hl 0 rfl) ?_
  refine jg_K_45_0 X hP jd_K_bit_30 ?_
  refine kn_clt X.1 X.2.1 jd_K_bit_33 (tgt := 46) (by decide) (by omega) (fun h33 => ?_) (fun h33 => absurd h33 (by omega))
  refine lv_aload_n X.1 X.2.1 jd_K_bit_46 rfl (lv_at hl 0 rfl) ?_
  refine lv_iload_n X.1 X.2.1 jd_K_bit_47 rfl (lv_at hl 1 rfl) ?_
  refine j_run (j_mkV X hP (c_K_stationOf_1 l d D a n g) jU_b (j_pp X hP) jm_314 jm_313 js_7 jm_1 jm_311 (by decide) rfl rfl (show jOk jy_K_stationOf 1 by unfold jOk; decide +kernel) (by decide) ⟨rfl, rfl⟩ hl.1 rfl (Nat.le_of_ble_eq_true rfl) ⟨Nat.zero_le _, Nat.zero_le _⟩ jd_K_bit_48) ?_
  refine W.eq (g2 := F0 m 51 ls [.ref (a 7)]) rfl ?_
  refine jg_K_89_7 X hP jd_K_bit_51 ?_
  refine lv_iload_n X.1 X.2.1 jd_K_bit_54 rfl (lv_at hl 2 rfl) ?_
  refine j_ald X hP 12 i (by decide) (show i < 128 from by omega) (by decide) jd_K_bit_55 ?_
  exact kn_to (by first | rfl | omega | (split <;> omega)) (hQ _ _ jd_K_bit_56)

set_option maxHeartbeats 4000000 in
theorem c_K_tag_7 (l : Launch) (d : Nat → Nat) (D : va_G) (a : Nat → Nat) (n : Nat → Nat → Nat) (g : Nat → Nat) (hB : NB n) (x : Nat) (hs : ¬ n 0 0 = 4294967295) (hx1 : 1 ≤ x) (hx2 : x ≤ 65535) (hn : n 0 0 ≤ 128) (h01 : ∀ i, n 12 i < 2) : jPure l d D a n g jy_K_tag jb_K_tag 3 (some .int) { frames := 2, cells := 0, slots := 0, locals := 48 } [.ref (a 0), .int (nI 1), .int (nI x)] (some (.int (nI (tagF (n 12) x (n 0 0))))) := by
  refine jq_I (by decide) (Nat.le_of_ble_eq_true rfl) ?_
  intro p e s m A below meth c ls Q X hP hl hQ
  have hl : lv_has ls 3 [(0, .ref (a 0)), (1, .int (nI 1)), (2, .int (nI x))] := hl
  refine lv_aload_n X.1 X.2.1 jd_K_tag_0 rfl (lv_at hl 0 rfl) ?_
  refine j_run (j_mkV X hP (c_K_isSifted l d D a n g (hB _ _)) jU_b (j_pp X hP) jm_318 jm_317 js_8 jm_1 jm_315 (by decide) rfl rfl (show jOk jy_K_isSifted 0 by unfold jOk; decide +kernel) (by decide) ⟨rfl, rfl⟩ hl.1 rfl (Nat.le_of_ble_eq_true rfl) ⟨Nat.zero_le _, Nat.zero_le _⟩ jd_K_tag_1) ?_
  refine W.eq (g2 := F0 m 4 ls [.int (nI (if n 0 0 = 4294967295 then 0 else 1))]) rfl ?_
  refine kn_to (y := 1) (if_neg hs) ?_
  refine kn_ne0 X.1 X.2.1 jd_K_tag_4 (tgt := 17) (by decide) (by omega) (fun h4 => ?_) (fun h4 => absurd h4 (by decide))
  refine lv_iload_n X.1 X.2.1 jd_K_tag_17 rfl (lv_at hl 1 rfl) ?_
  refine j_run (j_mkS X (c_K_isStation l d D a n g 1 (by decide)) jU_b (j_pp X hP) jm_241 jm_240 jm_1 jm_239 (show jOk jy_K_isStation 1 by unfold jOk; decide +kernel) (by decide) ⟨rfl, rfl⟩ hl.1 rfl (Nat.le_of_ble_eq_true rfl) ⟨Nat.zero_le _, Nat.zero_le _⟩ jd_K_tag_18) ?_
  refine W.eq (g2 := F0 m 21 ls [.int (nI (if 1 < 2 then 1 else 0))]) rfl ?_
  refine kn_to (y := 1) (rfl) ?_
  refine kn_eq0 X.1 X.2.1 jd_K_tag_21 (tgt := 31) (by decide) (by omega) (fun h21 => absurd h21 (by decide)) (fun h21 => ?_)
  refine lv_iload_n X.1 X.2.1 jd_K_tag_24 rfl (lv_at hl 2 rfl) ?_
  refine j_run (j_mkS X (c_K_isTagNumber l d D a n g x (by omega)) jU_b (j_pp X hP) jm_546 jm_545 jm_1 jm_544 (show jOk jy_K_isTagNumber 1 by unfold jOk; decide +kernel) (by decide) ⟨rfl, rfl⟩ hl.1 rfl (Nat.le_of_ble_eq_true rfl) ⟨Nat.zero_le _, Nat.zero_le _⟩ jd_K_tag_25) ?_
  refine W.eq (g2 := F0 m 28 ls [.int (nI (if 1 ≤ x ∧ x ≤ 65535 then 1 else 0))]) rfl ?_
  refine kn_to (y := 1) (if_pos ⟨hx1, hx2⟩) ?_
  refine kn_ne0 X.1 X.2.1 jd_K_tag_28 (tgt := 41) (by decide) (by omega) (fun h28 => ?_) (fun h28 => absurd h28 (by decide))
  refine lv_aload_n X.1 X.2.1 jd_K_tag_41 rfl (lv_at hl 0 rfl) ?_
  refine lv_iload_n X.1 X.2.1 jd_K_tag_42 rfl (lv_at hl 1 rfl) ?_
  refine j_run (j_mkV X hP (c_K_stationOf_1 l d D a n g) jU_b (j_pp X hP) jm_314 jm_313 js_7 jm_1 jm_311 (by decide) rfl rfl (show jOk jy_K_stationOf 1 by unfold jOk; decide +kernel) (by decide) ⟨rfl, rfl⟩ hl.1 rfl (Nat.le_of_ble_eq_true rfl) ⟨Nat.zero_le _, Nat.zero_le _⟩ jd_K_tag_43) ?_
  refine W.eq (g2 := F0 m 46 ls [.ref (a 7)]) rfl ?_
  refine lv_iload_n X.1 X.2.1 jd_K_tag_46 rfl (lv_at hl 2 rfl) ?_
  refine lv_aload_n X.1 X.2.1 jd_K_tag_47 rfl (lv_at hl 0 rfl) ?_
  refine jg_K_45_0 X hP jd_K_tag_48 ?_
  refine j_run (j_mkN (host := "KeyDistiller") X hP (c_S_tagWith_7 l d D a n g x (n 0 0) (by omega) hn h01) jU_b (j_pp X hP) jm_552 jm_551 js_36 jm_2 (by decide +kernel) (by decide) rfl rfl (show jOk jy_S_tagWith 2 by unfold jOk; decide +kernel) (by decide) ⟨rfl, rfl⟩ hl.1 rfl (Nat.le_of_ble_eq_true rfl) ⟨Nat.zero_le _, Nat.zero_le _⟩ jd_K_tag_51) ?_
  refine W.eq (g2 := F0 m 54 ls [.int (nI (tagF (n 12) x (n 0 0)))]) rfl ?_
  exact kn_to (by first | rfl | omega | (split <;> omega)) (hQ _ _ jd_K_tag_54)

set_option maxHeartbeats 4000000 in
theorem c_K_key_7 (l : Launch) (d : Nat → Nat) (D : va_G) (a : Nat → Nat) (n : Nat → Nat → Nat) (g : Nat → Nat) (hB : NB n) (i : Nat) (hi : i < n 0 3) (h3 : n 0 3 ≤ 128) (hn : n 0 0 ≤ 128) : jPure l d D a n g jy_K_key jb_K_key 6 (some .int) { frames := 1, cells := 0, slots := 0, locals := 21 } [.ref (a 0), .int (nI 1), .int (nI i)] (some (.int (nI (kyF (n 12) (n 32) (n 0 3 - 1 - i) (n 0 0))))) := by
  refine jq_I (by decide) (Nat.le_of_ble_eq_true rfl) ?_
  intro p e s m A below meth c ls Q X hP hl hQ
  have hl : lv_has ls 6 [(0, .ref (a 0)), (1, .int (nI 1)), (2, .int (nI i))] := hl
  refine lv_iload_n X.1 X.2.1 jd_K_key_0 rfl (lv_at hl 1 rfl) ?_
  refine j_run (j_mkS X (c_K_isStation l d D a n g 1 (by decide)) jU_b (j_pp X hP) jm_241 jm_240 jm_1 jm_239 (show jOk jy_K_isStation 1 by unfold jOk; decide +kernel) (by decide) ⟨rfl, rfl⟩ hl.1 rfl (Nat.le_of_ble_eq_true rfl) ⟨Nat.zero_le _, Nat.zero_le _⟩ jd_K_key_1) ?_
  refine W.eq (g2 := F0 m 4 ls [.int (nI (if 1 < 2 then 1 else 0))]) rfl ?_
  refine kn_to (y := 1) (rfl) ?_
  refine kn_eq0 X.1 X.2.1 jd_K_key_4 (tgt := 19) (by decide) (by omega) (fun h4 => absurd h4 (by decide)) (fun h4 => ?_)
  refine lv_iload_n X.1 X.2.1 jd_K_key_7 rfl (lv_at hl 2 rfl) ?_
  refine kn_lt0 X.1 X.2.1 jd_K_key_8 (tgt := 19) (by decide) (by omega) (fun h8 => absurd h8 (by omega)) (fun h8 => ?_)
  refine lv_iload_n X.1 X.2.1 jd_K_key_11 rfl (lv_at hl 2 rfl) ?_
  refine lv_aload_n X.1 X.2.1 jd_K_key_12 rfl (lv_at hl 0 rfl) ?_
  refine jg_K_226_0 X hP jd_K_key_13 ?_
  refine kn_clt X.1 X.2.1 jd_K_key_16 (tgt := 29) (by decide) (by omega) (fun h16 => ?_) (fun h16 => absurd h16 (by omega))
  refine lv_aload_n X.1 X.2.1 jd_K_key_29 rfl (lv_at hl 0 rfl) ?_
  refine lv_iload_n X.1 X.2.1 jd_K_key_30 rfl (lv_at hl 1 rfl) ?_
  refine j_run (j_mkV X hP (c_K_stationOf_1 l d D a n g) jU_b (j_pp X hP) jm_314 jm_313 js_7 jm_1 jm_311 (by decide) rfl rfl (show jOk jy_K_stationOf 1 by unfold jOk; decide +kernel) (by decide) ⟨rfl, rfl⟩ hl.1 rfl (Nat.le_of_ble_eq_true rfl) ⟨Nat.zero_le _, Nat.zero_le _⟩ jd_K_key_31) ?_
  refine W.eq (g2 := F0 m 34 ls [.ref (a 7)]) rfl ?_
  refine jg_K_89_7 X hP jd_K_key_34 ?_
  refine lv_astore_n X.1 X.2.1 jd_K_key_37 rfl hl (by decide) rfl (fun ls hl => ?_)
  have hl : lv_has ls 6 [(3, .ref (a 12)), (0, .ref (a 0)), (1, .int (nI 1)), (2, .int (nI i))] := hl
  refine lv_iconst (v := nI 0) X.1 X.2.1 jd_K_key_38 (by decide) ?_
  refine lv_istore X.1 X.2.1 jd_K_key_39 hl (by decide) rfl (fun ls hl => ?_)
  have hl : lv_has ls 6 [(4, .int (nI 0)), (3, .ref (a 12)), (0, .ref (a 0)), (1, .int (nI 1)), (2, .int (nI i))] := hl
  refine lv_iconst (v := nI 0) X.1 X.2.1 jd_K_key_41 (by decide) ?_
  refine lv_istore X.1 X.2.1 jd_K_key_42 hl (by decide) rfl (fun ls hl => ?_)
  have hl : lv_has ls 6 [(5, .int (nI 0)), (4, .int (nI 0)), (3, .ref (a 12)), (0, .ref (a 0)), (1, .int (nI 1)), (2, .int (nI i))] := hl
  have loop44 : ∀ (r k : Nat) (ls : Array Slot), k + r = n 0 0 → lv_has ls 6 [(5, .int (nI k)), (4, .int (nI (kyF (n 12) (n 32) (n 0 3 - 1 - i) k))), (3, .ref (a 12)), (0, .ref (a 0)), (1, .int (nI 1)), (2, .int (nI i))] → W p l e { frames := 1, cells := 0, slots := 0, locals := 21 } s m A below meth c s.heap [] 0 0 Q (F0 m 44 ls []) := by
    intro r
    induction r with
    | zero => 
      intro k ls hk hl
      obtain rfl : n 0 0 = k := by omega
      refine lv_iload X.1 X.2.1 jd_K_key_44 (lv_at hl 0 rfl) ?_
      refine lv_aload_n X.1 X.2.1 jd_K_key_46 rfl (lv_at hl 3 rfl) ?_
      refine jg_K_45_0 X hP jd_K_key_47 ?_
      refine kn_cge X.1 X.2.1 jd_K_key_50 (tgt := 85) (by decide) (by omega) (fun h50 => ?_) (fun h50 => absurd h50 (by omega))
      refine lv_iload X.1 X.2.1 jd_K_key_85 (lv_at hl 1 rfl) ?_
      exact kn_to (by first | rfl | omega | (split <;> omega)) (hQ _ _ jd_K_key_87)
    | succ r ihr => 
      intro k ls hk hl
      refine lv_iload X.1 X.2.1 jd_K_key_44 (lv_at hl 0 rfl) ?_
      refine lv_aload_n X.1 X.2.1 jd_K_key_46 rfl (lv_at hl 3 rfl) ?_
      refine jg_K_45_0 X hP jd_K_key_47 ?_
      refine kn_cge X.1 X.2.1 jd_K_key_50 (tgt := 85) (by decide) (by omega) (fun h50 => absurd h50 (by omega)) (fun h50 => ?_)
      refine lv_iload X.1 X.2.1 jd_K_key_53 (lv_at hl 1 rfl) ?_
      refine lv_aload_n X.1 X.2.1 jd_K_key_55 rfl (lv_at hl 2 rfl) ?_
      refine lv_iload X.1 X.2.1 jd_K_key_56 (lv_at hl 0 rfl) ?_
      refine j_ald X hP 12 k (by decide) (show k < 128 from by omega) (by decide) jd_K_key_58 ?_
      refine lv_aload_n X.1 X.2.1 jd_K_key_59 rfl (lv_at hl 3 rfl) ?_
      refine jg_K_42_0 X hP jd_K_key_60 ?_
      refine lv_iload X.1 X.2.1 jd_K_key_63 (lv_at hl 0 rfl) ?_
      refine lv_aload_n X.1 X.2.1 jd_K_key_65 rfl (lv_at hl 3 rfl) ?_
      refine jg_K_226_0 X hP jd_K_key_66 ?_
      refine kn_iadd X.1 X.2.1 jd_K_key_69 ?_
      refine lv_iconst (v := nI 1) X.1 X.2.1 jd_K_key_70 (by decide) ?_
      refine kn_isub X.1 X.2.1 jd_K_key_71 (by omega) ?_
      refine lv_iload_n X.1 X.2.1 jd_K_key_72 rfl (lv_at hl 5 rfl) ?_
      refine kn_isub X.1 X.2.1 jd_K_key_73 (by omega) ?_
      refine kn_to (y := k + (n 0 3 - 1 - i)) (by omega) ?_
      refine j_ald X hP 32 (k + (n 0 3 - 1 - i)) (by decide) (show (k + (n 0 3 - 1 - i)) < 256 from by omega) (by decide) jd_K_key_74 ?_
      refine kn_iand X.1 X.2.1 jd_K_key_75 ?_
      refine kn_ixor X.1 X.2.1 jd_K_key_76 ?_
      refine lv_istore X.1 X.2.1 jd_K_key_77 hl (by decide) rfl (fun ls hl => ?_)
      have hl : lv_has ls 6 [(4, .int (nI ((kyF (n 12) (n 32) (n 0 3 - 1 - i) k) ^^^ ((n 12 k) &&& (n 32 (k + (n 0 3 - 1 - i))))))), (5, .int (nI k)), (3, .ref (a 12)), (0, .ref (a 0)), (1, .int (nI 1)), (2, .int (nI i))] := hl
      refine lv_iinc (k := 1) (v := nI (k + 1)) X.1 X.2.1 jd_K_key_79 hl rfl (kn_inc _) (by decide) rfl (fun ls hl => ?_)
      have hl : lv_has ls 6 [(5, .int (nI (k + 1))), (4, .int (nI ((kyF (n 12) (n 32) (n 0 3 - 1 - i) k) ^^^ ((n 12 k) &&& (n 32 (k + (n 0 3 - 1 - i))))))), (3, .ref (a 12)), (0, .ref (a 0)), (1, .int (nI 1)), (2, .int (nI i))] := hl
      refine lv_goto X.1 X.2.1 jd_K_key_82 (tgt := 44) (by decide) ?_
      have hl : lv_has ls 6 [(5, .int (nI (k + 1))), (4, .int (nI (kyF (n 12) (n 32) (n 0 3 - 1 - i) (k + 1)))), (3, .ref (a 12)), (0, .ref (a 0)), (1, .int (nI 1)), (2, .int (nI i))] := lv_sub hl [0, 1, 2, 3, 4, 5] rfl
      exact ihr (k + 1) ls (by omega) hl
  have hl : lv_has ls 6 [(5, .int (nI 0)), (4, .int (nI (kyF (n 12) (n 32) (n 0 3 - 1 - i) 0))), (3, .ref (a 12)), (0, .ref (a 0)), (1, .int (nI 1)), (2, .int (nI i))] := lv_sub hl [0, 1, 2, 3, 4, 5] rfl
  exact loop44 (n 0 0) 0 ls (by omega) hl

set_option maxHeartbeats 4000000 in
theorem t_K_bit_IS (l : Launch) (d : Nat → Nat) (D : va_G) (a : Nat → Nat) (n : Nat → Nat → Nat) (g : Nat → Nat) (hlt : l.stackTraces = false) (hB : NB n) (x i : Nat) (hs : n 0 0 = 4294967295) : jThr l d D a n g jy_K_bit jb_K_bit 3 (some .int) { frames := 6, cells := 1, slots := 6, locals := 82 } [.ref (a 0), .int (nI x), .int (nI i)] "java/lang/IllegalStateException" := by
  refine jt_T hlt 72 76 rfl (by decide) (Nat.le_of_ble_eq_true rfl) jx_fIS jm_323 jm_11 jx_gIS jx_bIS jx_oIS (by decide) ?_
  intro p e s m A below meth c ls Q X hP hl hQ
  have hl : lv_has ls 3 [(0, .ref (a 0)), (1, .int (nI x)), (2, .int (nI i))] := hl
  refine lv_aload_n X.1 X.2.1 jd_K_bit_0 rfl (lv_at hl 0 rfl) ?_
  refine j_run (j_mkV X hP (c_K_isSifted l d D a n g (hB _ _)) jU_b (j_pp X hP) jm_318 jm_317 js_8 jm_1 jm_315 (by decide) rfl rfl (show jOk jy_K_isSifted 0 by unfold jOk; decide +kernel) (by decide) ⟨rfl, rfl⟩ hl.1 rfl (Nat.le_of_ble_eq_true rfl) ⟨Nat.zero_le _, Nat.zero_le _⟩ jd_K_bit_1) ?_
  refine W.eq (g2 := F0 m 4 ls [.int (nI (if n 0 0 = 4294967295 then 0 else 1))]) rfl ?_
  refine kn_to (y := 0) (if_pos hs) ?_
  refine kn_ne0 X.1 X.2.1 jd_K_bit_4 (tgt := 17) (by decide) (by omega) (fun h4 => absurd h4 (by decide)) (fun h4 => ?_)
  exact hQ 7 195 "not sifted" _ (by decide) hl.1 jd_K_bit_7 jd_K_bit_10 jd_K_bit_11 jd_K_bit_13 jd_K_bit_16

set_option maxHeartbeats 4000000 in
theorem t_K_bit_IO (l : Launch) (d : Nat → Nat) (D : va_G) (a : Nat → Nat) (n : Nat → Nat → Nat) (g : Nat → Nat) (hlt : l.stackTraces = false) (hB : NB n) (x i : Nat) (hx : x < 4294967296) (hi : i < 4294967296) (hs : ¬ n 0 0 = 4294967295) (hn : n 0 0 ≤ 128) (hbad : ¬ (x < 2 ∧ i < n 0 0)) : jThr l d D a n g jy_K_bit jb_K_bit 3 (some .int) { frames := 6, cells := 1, slots := 6, locals := 82 } [.ref (a 0), .int (nI x), .int (nI i)] "java/lang/IndexOutOfBoundsException" := by
  refine jt_T hlt 147 151 rfl (by decide) (Nat.le_of_ble_eq_true rfl) jx_fIO jm_470 jm_14 jx_gIO jx_bIO jx_oIO (by decide) ?_
  intro p e s m A below meth c ls Q X hP hl hQ
  have hl : lv_has ls 3 [(0, .ref (a 0)), (1, .int (nI x)), (2, .int (nI i))] := hl
  refine lv_aload_n X.1 X.2.1 jd_K_bit_0 rfl (lv_at hl 0 rfl) ?_
  refine j_run (j_mkV X hP (c_K_isSifted l d D a n g (hB _ _)) jU_b (j_pp X hP) jm_318 jm_317 js_8 jm_1 jm_315 (by decide) rfl rfl (show jOk jy_K_isSifted 0 by unfold jOk; decide +kernel) (by decide) ⟨rfl, rfl⟩ hl.1 rfl (Nat.le_of_ble_eq_true rfl) ⟨Nat.zero_le _, Nat.zero_le _⟩ jd_K_bit_1) ?_
  refine W.eq (g2 := F0 m 4 ls [.int (nI (if n 0 0 = 4294967295 then 0 else 1))]) rfl ?_
  refine kn_to (y := 1) (if_neg hs) ?_
  refine kn_ne0 X.1 X.2.1 jd_K_bit_4 (tgt := 17) (by decide) (by omega) (fun h4 => ?_) (fun h4 => absurd h4 (by decide))
  refine lv_iload_n X.1 X.2.1 jd_K_bit_17 rfl (lv_at hl 1 rfl) ?_
  refine j_run (j_mkS X (c_K_isStation l d D a n g x hx) jU_b (j_pp X hP) jm_241 jm_240 jm_1 jm_239 (show jOk jy_K_isStation 1 by unfold jOk; decide +kernel) (by decide) ⟨rfl, rfl⟩ hl.1 rfl (Nat.le_of_ble_eq_true rfl) ⟨Nat.zero_le _, Nat.zero_le _⟩ jd_K_bit_18) ?_
  refine W.eq (g2 := F0 m 21 ls [.int (nI (if x < 2 then 1 else 0))]) rfl ?_
  refine kn_eq0 X.1 X.2.1 jd_K_bit_21 (tgt := 36) (by decide) (by split <;> omega) (fun h21 => ?_) (fun h21 => ?_)
  · skip
    exact hQ 36 197 "no such station or bit" _ (by decide) hl.1 jd_K_bit_36 jd_K_bit_39 jd_K_bit_40 jd_K_bit_42 jd_K_bit_45
  · skip
    have hx2 : x < 2 := by by_cases q : x < 2; exact q; rw [if_neg q] at h21; omega
    refine lv_iload_n X.1 X.2.1 jd_K_bit_24 rfl (lv_at hl 2 rfl) ?_
    refine kn_lt0 X.1 X.2.1 jd_K_bit_25 (tgt := 36) (by decide) (by omega) (fun h25 => ?_) (fun h25 => ?_)
    · skip
      exact hQ 36 197 "no such station or bit" _ (by decide) hl.1 jd_K_bit_36 jd_K_bit_39 jd_K_bit_40 jd_K_bit_42 jd_K_bit_45
    · skip
      refine lv_iload_n X.1 X.2.1 jd_K_bit_28 rfl (lv_at hl 2 rfl) ?_
      refine lv_aload_n X.1 X.2.1 jd_K_bit_29 rfl (lv_at hl 0 rfl) ?_
      refine jg_K_45_0 X hP jd_K_bit_30 ?_
      refine kn_xlt X.1 X.2.1 jd_K_bit_33 (tgt := 46) (by decide) (by omega) (fun h33 => ?_) (fun h33 => ?_)
      · skip
        exact absurd hbad (by omega)
      · skip
        exact hQ 36 197 "no such station or bit" _ (by decide) hl.1 jd_K_bit_36 jd_K_bit_39 jd_K_bit_40 jd_K_bit_42 jd_K_bit_45

set_option maxHeartbeats 4000000 in
theorem t_K_tag_IS (l : Launch) (d : Nat → Nat) (D : va_G) (a : Nat → Nat) (n : Nat → Nat → Nat) (g : Nat → Nat) (hlt : l.stackTraces = false) (hB : NB n) (x i : Nat) (hs : n 0 0 = 4294967295) : jThr l d D a n g jy_K_tag jb_K_tag 3 (some .int) { frames := 6, cells := 1, slots := 6, locals := 82 } [.ref (a 0), .int (nI x), .int (nI i)] "java/lang/IllegalStateException" := by
  refine jt_T hlt 72 76 rfl (by decide) (Nat.le_of_ble_eq_true rfl) jx_fIS jm_323 jm_11 jx_gIS jx_bIS jx_oIS (by decide) ?_
  intro p e s m A below meth c ls Q X hP hl hQ
  have hl : lv_has ls 3 [(0, .ref (a 0)), (1, .int (nI x)), (2, .int (nI i))] := hl
  refine lv_aload_n X.1 X.2.1 jd_K_tag_0 rfl (lv_at hl 0 rfl) ?_
  refine j_run (j_mkV X hP (c_K_isSifted l d D a n g (hB _ _)) jU_b (j_pp X hP) jm_318 jm_317 js_8 jm_1 jm_315 (by decide) rfl rfl (show jOk jy_K_isSifted 0 by unfold jOk; decide +kernel) (by decide) ⟨rfl, rfl⟩ hl.1 rfl (Nat.le_of_ble_eq_true rfl) ⟨Nat.zero_le _, Nat.zero_le _⟩ jd_K_tag_1) ?_
  refine W.eq (g2 := F0 m 4 ls [.int (nI (if n 0 0 = 4294967295 then 0 else 1))]) rfl ?_
  refine kn_to (y := 0) (if_pos hs) ?_
  refine kn_ne0 X.1 X.2.1 jd_K_tag_4 (tgt := 17) (by decide) (by omega) (fun h4 => absurd h4 (by decide)) (fun h4 => ?_)
  exact hQ 7 195 "not sifted" _ (by decide) hl.1 jd_K_tag_7 jd_K_tag_10 jd_K_tag_11 jd_K_tag_13 jd_K_tag_16

set_option maxHeartbeats 4000000 in
theorem t_K_tag_IA (l : Launch) (d : Nat → Nat) (D : va_G) (a : Nat → Nat) (n : Nat → Nat → Nat) (g : Nat → Nat) (hlt : l.stackTraces = false) (hB : NB n) (x i : Nat) (hx : x < 4294967296) (hi : i < 4294967296) (hs : ¬ n 0 0 = 4294967295) (hbad : ¬ (x < 2 ∧ 1 ≤ i ∧ i ≤ 65535)) : jThr l d D a n g jy_K_tag jb_K_tag 3 (some .int) { frames := 6, cells := 1, slots := 6, locals := 82 } [.ref (a 0), .int (nI x), .int (nI i)] "java/lang/IllegalArgumentException" := by
  refine jt_T hlt 53 57 rfl (by decide) (Nat.le_of_ble_eq_true rfl) jx_fIA jm_242 jm_10 jx_gIA jx_bIA jx_oIA (by decide) ?_
  intro p e s m A below meth c ls Q X hP hl hQ
  have hl : lv_has ls 3 [(0, .ref (a 0)), (1, .int (nI x)), (2, .int (nI i))] := hl
  refine lv_aload_n X.1 X.2.1 jd_K_tag_0 rfl (lv_at hl 0 rfl) ?_
  refine j_run (j_mkV X hP (c_K_isSifted l d D a n g (hB _ _)) jU_b (j_pp X hP) jm_318 jm_317 js_8 jm_1 jm_315 (by decide) rfl rfl (show jOk jy_K_isSifted 0 by unfold jOk; decide +kernel) (by decide) ⟨rfl, rfl⟩ hl.1 rfl (Nat.le_of_ble_eq_true rfl) ⟨Nat.zero_le _, Nat.zero_le _⟩ jd_K_tag_1) ?_
  refine W.eq (g2 := F0 m 4 ls [.int (nI (if n 0 0 = 4294967295 then 0 else 1))]) rfl ?_
  refine kn_to (y := 1) (if_neg hs) ?_
  refine kn_ne0 X.1 X.2.1 jd_K_tag_4 (tgt := 17) (by decide) (by omega) (fun h4 => ?_) (fun h4 => absurd h4 (by decide))
  refine lv_iload_n X.1 X.2.1 jd_K_tag_17 rfl (lv_at hl 1 rfl) ?_
  refine j_run (j_mkS X (c_K_isStation l d D a n g x hx) jU_b (j_pp X hP) jm_241 jm_240 jm_1 jm_239 (show jOk jy_K_isStation 1 by unfold jOk; decide +kernel) (by decide) ⟨rfl, rfl⟩ hl.1 rfl (Nat.le_of_ble_eq_true rfl) ⟨Nat.zero_le _, Nat.zero_le _⟩ jd_K_tag_18) ?_
  refine W.eq (g2 := F0 m 21 ls [.int (nI (if x < 2 then 1 else 0))]) rfl ?_
  refine kn_eq0 X.1 X.2.1 jd_K_tag_21 (tgt := 31) (by decide) (by split <;> omega) (fun h21 => ?_) (fun h21 => ?_)
  · skip
    exact hQ 31 204 "no such station or number" _ (by decide) hl.1 jd_K_tag_31 jd_K_tag_34 jd_K_tag_35 jd_K_tag_37 jd_K_tag_40
  · skip
    have hx2 : x < 2 := by by_cases q : x < 2; exact q; rw [if_neg q] at h21; omega
    refine lv_iload_n X.1 X.2.1 jd_K_tag_24 rfl (lv_at hl 2 rfl) ?_
    refine j_run (j_mkS X (c_K_isTagNumber l d D a n g i hi) jU_b (j_pp X hP) jm_546 jm_545 jm_1 jm_544 (show jOk jy_K_isTagNumber 1 by unfold jOk; decide +kernel) (by decide) ⟨rfl, rfl⟩ hl.1 rfl (Nat.le_of_ble_eq_true rfl) ⟨Nat.zero_le _, Nat.zero_le _⟩ jd_K_tag_25) ?_
    refine W.eq (g2 := F0 m 28 ls [.int (nI (if 1 ≤ i ∧ i ≤ 65535 then 1 else 0))]) rfl ?_
    refine kn_ne0 X.1 X.2.1 jd_K_tag_28 (tgt := 41) (by decide) (by split <;> omega) (fun h28 => ?_) (fun h28 => ?_)
    · skip
      have hi2 : 1 ≤ i ∧ i ≤ 65535 := by by_cases q : 1 ≤ i ∧ i ≤ 65535; exact q; rw [if_neg q] at h28; omega
      exact absurd hbad (by omega)
    · skip
      exact hQ 31 204 "no such station or number" _ (by decide) hl.1 jd_K_tag_31 jd_K_tag_34 jd_K_tag_35 jd_K_tag_37 jd_K_tag_40

set_option maxHeartbeats 4000000 in
theorem t_K_key_IO (l : Launch) (d : Nat → Nat) (D : va_G) (a : Nat → Nat) (n : Nat → Nat → Nat) (g : Nat → Nat) (hlt : l.stackTraces = false) (hB : NB n) (x i : Nat) (hx : x < 4294967296) (hi : i < 4294967296) (h3 : n 0 3 ≤ 128) (hbad : ¬ (x < 2 ∧ i < n 0 3)) : jThr l d D a n g jy_K_key jb_K_key 6 (some .int) { frames := 6, cells := 1, slots := 6, locals := 82 } [.ref (a 0), .int (nI x), .int (nI i)] "java/lang/IndexOutOfBoundsException" := by
  refine jt_T hlt 147 151 rfl (by decide) (Nat.le_of_ble_eq_true rfl) jx_fIO jm_470 jm_14 jx_gIO jx_bIO jx_oIO (by decide) ?_
  intro p e s m A below meth c ls Q X hP hl hQ
  have hl : lv_has ls 6 [(0, .ref (a 0)), (1, .int (nI x)), (2, .int (nI i))] := hl
  refine lv_iload_n X.1 X.2.1 jd_K_key_0 rfl (lv_at hl 1 rfl) ?_
  refine j_run (j_mkS X (c_K_isStation l d D a n g x hx) jU_b (j_pp X hP) jm_241 jm_240 jm_1 jm_239 (show jOk jy_K_isStation 1 by unfold jOk; decide +kernel) (by decide) ⟨rfl, rfl⟩ hl.1 rfl (Nat.le_of_ble_eq_true rfl) ⟨Nat.zero_le _, Nat.zero_le _⟩ jd_K_key_1) ?_
  refine W.eq (g2 := F0 m 4 ls [.int (nI (if x < 2 then 1 else 0))]) rfl ?_
  refine kn_eq0 X.1 X.2.1 jd_K_key_4 (tgt := 19) (by decide) (by split <;> omega) (fun h4 => ?_) (fun h4 => ?_)
  · skip
    exact hQ 19 197 "no such station or bit" _ (by decide) hl.1 jd_K_key_19 jd_K_key_22 jd_K_key_23 jd_K_key_25 jd_K_key_28
  · skip
    have hx2 : x < 2 := by by_cases q : x < 2; exact q; rw [if_neg q] at h4; omega
    refine lv_iload_n X.1 X.2.1 jd_K_key_7 rfl (lv_at hl 2 rfl) ?_
    refine kn_lt0 X.1 X.2.1 jd_K_key_8 (tgt := 19) (by decide) (by omega) (fun h8 => ?_) (fun h8 => ?_)
    · skip
      exact hQ 19 197 "no such station or bit" _ (by decide) hl.1 jd_K_key_19 jd_K_key_22 jd_K_key_23 jd_K_key_25 jd_K_key_28
    · skip
      refine lv_iload_n X.1 X.2.1 jd_K_key_11 rfl (lv_at hl 2 rfl) ?_
      refine lv_aload_n X.1 X.2.1 jd_K_key_12 rfl (lv_at hl 0 rfl) ?_
      refine jg_K_226_0 X hP jd_K_key_13 ?_
      refine kn_xlt X.1 X.2.1 jd_K_key_16 (tgt := 29) (by decide) (by omega) (fun h16 => ?_) (fun h16 => ?_)
      · skip
        exact absurd hbad (by omega)
      · skip
        exact hQ 19 197 "no such station or bit" _ (by decide) hl.1 jd_K_key_19 jd_K_key_22 jd_K_key_23 jd_K_key_25 jd_K_key_28

set_option maxHeartbeats 4000000 in
theorem c_K_item (l : Launch) (d : Nat → Nat) (D : va_G) (a : Nat → Nat) (n : Nat → Nat → Nat) (g : Nat → Nat) (hB : NB n) (q i : Nat) (hbg : ¬ n 14 3 = 4294967295) (hq : q < 4) (hi : i < n 0 0) (hn : n 0 0 ≤ 128) : jPure l d D a n g jy_K_item jb_K_item 3 (some .int) { frames := 1, cells := 0, slots := 0, locals := 20 } [.ref (a 0), .int (nI q), .int (nI i)] (some (.int (nI (n (20 + q) i)))) := by
  refine jq_I (by decide) (Nat.le_of_ble_eq_true rfl) ?_
  intro p e s m A below meth c ls Q X hP hl hQ
  have hl : lv_has ls 3 [(0, .ref (a 0)), (1, .int (nI q)), (2, .int (nI i))] := hl
  refine lv_aload_n X.1 X.2.1 jd_K_item_0 rfl (lv_at hl 0 rfl) ?_
  refine jg_K_31_0 X hP jd_K_item_1 ?_
  refine j_run (j_mkN (host := "KeyDistiller") X hP (c_D_isBegun l d D a n g (hB _ _)) jU_b (j_pp X hP) jm_365 jm_364 js_12 jm_4 (by decide +kernel) (by decide) rfl rfl (show jOk jy_D_isBegun 0 by unfold jOk; decide +kernel) (by decide) ⟨rfl, rfl⟩ hl.1 rfl (Nat.le_of_ble_eq_true rfl) ⟨Nat.zero_le _, Nat.zero_le _⟩ jd_K_item_4) ?_
  refine W.eq (g2 := F0 m 7 ls [.int (nI (if n 14 3 = 4294967295 then 0 else 1))]) rfl ?_
  refine kn_to (y := 1) (if_neg hbg) ?_
  refine kn_ne0 X.1 X.2.1 jd_K_item_7 (tgt := 20) (by decide) (by omega) (fun h7 => ?_) (fun h7 => absurd h7 (by decide))
  refine lv_iload_n X.1 X.2.1 jd_K_item_20 rfl (lv_at hl 1 rfl) ?_
  refine kn_lt0 X.1 X.2.1 jd_K_item_21 (tgt := 41) (by decide) (by omega) (fun h21 => absurd h21 (by omega)) (fun h21 => ?_)
  refine lv_iload_n X.1 X.2.1 jd_K_item_24 rfl (lv_at hl 1 rfl) ?_
  refine lv_iconst (v := nI 4) X.1 X.2.1 jd_K_item_25 (by decide) ?_
  refine kn_cge X.1 X.2.1 jd_K_item_26 (tgt := 41) (by decide) (by omega) (fun h26 => absurd h26 (by omega)) (fun h26 => ?_)
  refine lv_iload_n X.1 X.2.1 jd_K_item_29 rfl (lv_at hl 2 rfl) ?_
  refine kn_lt0 X.1 X.2.1 jd_K_item_30 (tgt := 41) (by decide) (by omega) (fun h30 => absurd h30 (by omega)) (fun h30 => ?_)
  refine lv_iload_n X.1 X.2.1 jd_K_item_33 rfl (lv_at hl 2 rfl) ?_
  refine lv_aload_n X.1 X.2.1 jd_K_item_34 rfl (lv_at hl 0 rfl) ?_
  refine jg_K_45_0 X hP jd_K_item_35 ?_
  refine kn_clt X.1 X.2.1 jd_K_item_38 (tgt := 51) (by decide) (by omega) (fun h38 => ?_) (fun h38 => absurd h38 (by omega))
  refine lv_aload_n X.1 X.2.1 jd_K_item_51 rfl (lv_at hl 0 rfl) ?_
  refine jg_K_31_0 X hP jd_K_item_52 ?_
  refine jg_K_125_14 X hP jd_K_item_55 ?_
  refine lv_iload_n X.1 X.2.1 jd_K_item_58 rfl (lv_at hl 1 rfl) ?_
  refine j_aald X hP 19 q (by decide) (by omega) jd_K_item_59 ?_
  refine lv_iload_n X.1 X.2.1 jd_K_item_60 rfl (lv_at hl 2 rfl) ?_
  refine j_ald X hP (20 + q) i (by omega) (by rw [jI_or hq]; omega) (by rw [jI_or hq]; decide) jd_K_item_61 ?_
  exact kn_to (by first | rfl | omega | (split <;> omega)) (hQ _ _ jd_K_item_62)

set_option maxHeartbeats 4000000 in
theorem t_K_item_IS (l : Launch) (d : Nat → Nat) (D : va_G) (a : Nat → Nat) (n : Nat → Nat → Nat) (g : Nat → Nat) (hlt : l.stackTraces = false) (hB : NB n) (q i : Nat) (hbg : n 14 3 = 4294967295) : jThr l d D a n g jy_K_item jb_K_item 3 (some .int) { frames := 6, cells := 1, slots := 6, locals := 82 } [.ref (a 0), .int (nI q), .int (nI i)] "java/lang/IllegalStateException" := by
  refine jt_T hlt 72 76 rfl (by decide) (Nat.le_of_ble_eq_true rfl) jx_fIS jm_323 jm_11 jx_gIS jx_bIS jx_oIS (by decide) ?_
  intro p e s m A below meth c ls Q X hP hl hQ
  have hl : lv_has ls 3 [(0, .ref (a 0)), (1, .int (nI q)), (2, .int (nI i))] := hl
  refine lv_aload_n X.1 X.2.1 jd_K_item_0 rfl (lv_at hl 0 rfl) ?_
  refine jg_K_31_0 X hP jd_K_item_1 ?_
  refine j_run (j_mkN (host := "KeyDistiller") X hP (c_D_isBegun l d D a n g (hB _ _)) jU_b (j_pp X hP) jm_365 jm_364 js_12 jm_4 (by decide +kernel) (by decide) rfl rfl (show jOk jy_D_isBegun 0 by unfold jOk; decide +kernel) (by decide) ⟨rfl, rfl⟩ hl.1 rfl (Nat.le_of_ble_eq_true rfl) ⟨Nat.zero_le _, Nat.zero_le _⟩ jd_K_item_4) ?_
  refine W.eq (g2 := F0 m 7 ls [.int (nI (if n 14 3 = 4294967295 then 0 else 1))]) rfl ?_
  refine kn_to (y := 0) (if_pos hbg) ?_
  refine kn_ne0 X.1 X.2.1 jd_K_item_7 (tgt := 20) (by decide) (by omega) (fun h7 => absurd h7 (by decide)) (fun h7 => ?_)
  exact hQ 10 178 "not begun" _ (by decide) hl.1 jd_K_item_10 jd_K_item_13 jd_K_item_14 jd_K_item_16 jd_K_item_19

set_option maxHeartbeats 4000000 in
theorem t_K_item_IO (l : Launch) (d : Nat → Nat) (D : va_G) (a : Nat → Nat) (n : Nat → Nat → Nat) (g : Nat → Nat) (hlt : l.stackTraces = false) (hB : NB n) (q i : Nat) (hq : q < 4294967296) (hi : i < 4294967296) (hbg : ¬ n 14 3 = 4294967295) (hn : n 0 0 ≤ 128) (hbad : ¬ (q < 4 ∧ i < n 0 0)) : jThr l d D a n g jy_K_item jb_K_item 3 (some .int) { frames := 6, cells := 1, slots := 6, locals := 82 } [.ref (a 0), .int (nI q), .int (nI i)] "java/lang/IndexOutOfBoundsException" := by
  refine jt_T hlt 147 151 rfl (by decide) (Nat.le_of_ble_eq_true rfl) jx_fIO jm_470 jm_14 jx_gIO jx_bIO jx_oIO (by decide) ?_
  intro p e s m A below meth c ls Q X hP hl hQ
  have hl : lv_has ls 3 [(0, .ref (a 0)), (1, .int (nI q)), (2, .int (nI i))] := hl
  refine lv_aload_n X.1 X.2.1 jd_K_item_0 rfl (lv_at hl 0 rfl) ?_
  refine jg_K_31_0 X hP jd_K_item_1 ?_
  refine j_run (j_mkN (host := "KeyDistiller") X hP (c_D_isBegun l d D a n g (hB _ _)) jU_b (j_pp X hP) jm_365 jm_364 js_12 jm_4 (by decide +kernel) (by decide) rfl rfl (show jOk jy_D_isBegun 0 by unfold jOk; decide +kernel) (by decide) ⟨rfl, rfl⟩ hl.1 rfl (Nat.le_of_ble_eq_true rfl) ⟨Nat.zero_le _, Nat.zero_le _⟩ jd_K_item_4) ?_
  refine W.eq (g2 := F0 m 7 ls [.int (nI (if n 14 3 = 4294967295 then 0 else 1))]) rfl ?_
  refine kn_to (y := 1) (if_neg hbg) ?_
  refine kn_ne0 X.1 X.2.1 jd_K_item_7 (tgt := 20) (by decide) (by omega) (fun h7 => ?_) (fun h7 => absurd h7 (by decide))
  refine lv_iload_n X.1 X.2.1 jd_K_item_20 rfl (lv_at hl 1 rfl) ?_
  refine kn_lt0 X.1 X.2.1 jd_K_item_21 (tgt := 41) (by decide) (by omega) (fun h21 => ?_) (fun h21 => ?_)
  · skip
    exact hQ 41 199 "no such pass or item" _ (by decide) hl.1 jd_K_item_41 jd_K_item_44 jd_K_item_45 jd_K_item_47 jd_K_item_50
  · skip
    refine lv_iload_n X.1 X.2.1 jd_K_item_24 rfl (lv_at hl 1 rfl) ?_
    refine lv_iconst (v := nI 4) X.1 X.2.1 jd_K_item_25 (by decide) ?_
    refine kn_xge X.1 X.2.1 jd_K_item_26 (tgt := 41) (by decide) (by omega) (fun h26 => ?_) (fun h26 => ?_)
    · skip
      exact hQ 41 199 "no such pass or item" _ (by decide) hl.1 jd_K_item_41 jd_K_item_44 jd_K_item_45 jd_K_item_47 jd_K_item_50
    · skip
      refine lv_iload_n X.1 X.2.1 jd_K_item_29 rfl (lv_at hl 2 rfl) ?_
      refine kn_lt0 X.1 X.2.1 jd_K_item_30 (tgt := 41) (by decide) (by omega) (fun h30 => ?_) (fun h30 => ?_)
      · skip
        exact hQ 41 199 "no such pass or item" _ (by decide) hl.1 jd_K_item_41 jd_K_item_44 jd_K_item_45 jd_K_item_47 jd_K_item_50
      · skip
        refine lv_iload_n X.1 X.2.1 jd_K_item_33 rfl (lv_at hl 2 rfl) ?_
        refine lv_aload_n X.1 X.2.1 jd_K_item_34 rfl (lv_at hl 0 rfl) ?_
        refine jg_K_45_0 X hP jd_K_item_35 ?_
        refine kn_xlt X.1 X.2.1 jd_K_item_38 (tgt := 51) (by decide) (by omega) (fun h38 => ?_) (fun h38 => ?_)
        · skip
          exact absurd hbad (by omega)
        · skip
          exact hQ 41 199 "no such pass or item" _ (by decide) hl.1 jd_K_item_41 jd_K_item_44 jd_K_item_45 jd_K_item_47 jd_K_item_50
