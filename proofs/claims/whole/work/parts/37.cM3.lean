set_option maxHeartbeats 4000000 in
theorem c_M_asksForBlock (l : Launch) (d : Nat → Nat) (D : va_G) (a : Nat → Nat) (n : Nat → Nat → Nat) (g : Nat → Nat) (hap : ∀ i j : Nat, i < 52 → j < 52 → a i = a j → i = j) (hM : MI n) (h4 : n 33 7 < 4) : jEff l d D a n g jy_M_asksForBlock jb_M_asksForBlock 2 (some .boolean) { frames := 2, cells := 0, slots := 0, locals := 46 } [.ref (a 33)] (fun v9 n2 g2 => some (.int (nI (afM n (n 33 7)).2)) = v9 ∧ (afM n (n 33 7)).1 = n2 ∧ g = g2) := by
  obtain ⟨⟨hz, hz2, ht, ht2⟩, hB, ho, h38, hz8, hz11, hz7, hz9⟩ := hM
  refine je_Z (by decide) (Nat.le_of_ble_eq_true rfl) ?_
  intro p e s m A below meth c ls Q X hP hS hl hQ
  have hl : lv_has ls 2 [(0, .ref (a 33))] := hl
  refine lv_iconst (v := nI 0) X.1 X.2.1 jd_M_asksForBlock_0 (by decide) ?_
  refine lv_istore_n X.1 X.2.1 jd_M_asksForBlock_1 rfl hl (by decide) rfl (fun ls hl => ?_)
  have hl : lv_has ls 2 [(1, .int (nI 0)), (0, .ref (a 33))] := hl
  have loop2 : ∀ (r k : Nat) (ls : Array Slot), k + r = bcM n (n 33 7) → fbF (fun f => kwF n (n 33 7) f (beM n (n 33 7) f)) (n 33 6 * 2 ^ (n 33 7)) k = none → lv_has ls 2 [(1, .int (nI (k * (n 33 6 * 2 ^ (n 33 7))))), (0, .ref (a 33))] → W p l e { frames := 2, cells := 0, slots := 0, locals := 46 } s m A below meth c s.heap [] 0 0 Q (F0 m 2 ls []) := by
    intro r
    induction r with
    | zero => 
      intro k ls hk hn hl
      obtain rfl : bcM n (n 33 7) = k := by omega
      refine lv_iload_n X.1 X.2.1 jd_M_asksForBlock_2 rfl (lv_at hl 0 rfl) ?_
      refine lv_aload_n X.1 X.2.1 jd_M_asksForBlock_3 rfl (lv_at hl 1 rfl) ?_
      refine jg_M_85_33 X hP jd_M_asksForBlock_4 ?_
      refine kn_cge X.1 X.2.1 jd_M_asksForBlock_7 (tgt := 66) (by decide) (by have hg := blM_ge (n := n) (q := n 33 7) hz; have hc := bcM_le (n := n) (q := n 33 7) hz ht2; have hs := bsM_le (n := n) (p := n 33 7) hz2 h4; first | (have hbl := blM_lt (n := n) (q := n 33 7) (b := k) (by omega) (by omega); omega) | (have hm := Nat.mul_le_mul hc hs; omega)) (fun h7 => ?_) (fun h7 => absurd h7 (by first | (have hg := blM_ge (n := n) (q := n 33 7) hz; omega) | (have hbl := blM_lt (n := n) (q := n 33 7) (b := k) (by omega) (by omega); omega)))
      refine lv_iconst (v := nI 0) X.1 X.2.1 jd_M_asksForBlock_66 (by decide) ?_
      exact hQ _ _ _ _ _ _ _ (by decide) (by rw [afM_none hn]; exact ⟨rfl, rfl, rfl⟩) hP hS jd_M_asksForBlock_67
    | succ r ihr => 
      intro k ls hk hn hl
      refine lv_iload_n X.1 X.2.1 jd_M_asksForBlock_2 rfl (lv_at hl 0 rfl) ?_
      refine lv_aload_n X.1 X.2.1 jd_M_asksForBlock_3 rfl (lv_at hl 1 rfl) ?_
      refine jg_M_85_33 X hP jd_M_asksForBlock_4 ?_
      refine kn_cge X.1 X.2.1 jd_M_asksForBlock_7 (tgt := 66) (by decide) (by have hg := blM_ge (n := n) (q := n 33 7) hz; have hc := bcM_le (n := n) (q := n 33 7) hz ht2; have hs := bsM_le (n := n) (p := n 33 7) hz2 h4; first | (have hbl := blM_lt (n := n) (q := n 33 7) (b := k) (by omega) (by omega); omega) | (have hm := Nat.mul_le_mul hc hs; omega)) (fun h7 => absurd h7 (by first | (have hg := blM_ge (n := n) (q := n 33 7) hz; omega) | (have hbl := blM_lt (n := n) (q := n 33 7) (b := k) (by omega) (by omega); omega))) (fun h7 => ?_)
      have hbl := blM_lt (n := n) (q := n 33 7) (b := k) (by omega) (by omega)
      have hbe := beM_gt (n := n) (q := n 33 7) (f := (k * (n 33 6 * 2 ^ (n 33 7)))) hz hbl
      have hbe2 := beM_le (n := n) (q := n 33 7) (f := (k * (n 33 6 * 2 ^ (n 33 7))))
      refine lv_aload_n X.1 X.2.1 jd_M_asksForBlock_10 rfl (lv_at hl 1 rfl) ?_
      refine lv_aload_n X.1 X.2.1 jd_M_asksForBlock_11 rfl (lv_at hl 1 rfl) ?_
      refine jg_M_32_33 X hP jd_M_asksForBlock_12 ?_
      refine lv_iload_n X.1 X.2.1 jd_M_asksForBlock_15 rfl (lv_at hl 0 rfl) ?_
      refine lv_aload_n X.1 X.2.1 jd_M_asksForBlock_16 rfl (lv_at hl 1 rfl) ?_
      refine lv_iload_n X.1 X.2.1 jd_M_asksForBlock_17 rfl (lv_at hl 0 rfl) ?_
      refine lv_aload_n X.1 X.2.1 jd_M_asksForBlock_18 rfl (lv_at hl 1 rfl) ?_
      refine jg_M_32_33 X hP jd_M_asksForBlock_19 ?_
      refine j_run (j_mkV X hP (c_M_end l d D a n g (n 33 7) (k * (n 33 6 * 2 ^ (n 33 7))) (h4) (by omega) hz2 ht2) jU_b (j_pp X hP) jm_765 jm_764 js_45 jm_6 jm_762 (by decide) rfl rfl (show jOk jy_M_end 2 by unfold jOk; decide +kernel) (by decide) ⟨rfl, rfl⟩ hl.1 rfl (Nat.le_of_ble_eq_true rfl) ⟨Nat.zero_le _, Nat.zero_le _⟩ jd_M_asksForBlock_22) ?_
      refine W.eq (g2 := F0 m 25 ls [.int (nI (beM n (n 33 7) (k * (n 33 6 * 2 ^ (n 33 7))))), .int (nI (k * (n 33 6 * 2 ^ (n 33 7)))), .int (nI (n 33 7)), .ref (a 33)]) rfl ?_
      refine j_run (j_mkV X hP (c_M_known l d D a n g hB (n 33 7) (k * (n 33 6 * 2 ^ (n 33 7))) (beM n (n 33 7) (k * (n 33 6 * 2 ^ (n 33 7)))) (by omega) (by omega) (by omega) (by omega)) jU_b (j_pp X hP) jm_773 jm_772 js_47 jm_6 jm_770 (by decide) rfl rfl (show jOk jy_M_known 3 by unfold jOk; decide +kernel) (by decide) ⟨rfl, rfl⟩ hl.1 rfl (Nat.le_of_ble_eq_true rfl) ⟨Nat.zero_le _, Nat.zero_le _⟩ jd_M_asksForBlock_25) ?_
      refine W.eq (g2 := F0 m 28 ls [.int (nI (kwF n (n 33 7) (k * (n 33 6 * 2 ^ (n 33 7))) (beM n (n 33 7) (k * (n 33 6 * 2 ^ (n 33 7))))))]) rfl ?_
      refine lv_iconst (v := nI 4294967295) X.1 X.2.1 jd_M_asksForBlock_28 (by decide) ?_
      refine kn_cne X.1 X.2.1 jd_M_asksForBlock_29 (tgt := 52) (by decide) (⟨kw_lt hB _ _ _, by decide⟩) (fun h29 => ?_) (fun h29 => ?_)
      · skip
        refine lv_iload_n X.1 X.2.1 jd_M_asksForBlock_52 rfl (lv_at hl 0 rfl) ?_
        refine lv_aload_n X.1 X.2.1 jd_M_asksForBlock_53 rfl (lv_at hl 1 rfl) ?_
        refine lv_aload_n X.1 X.2.1 jd_M_asksForBlock_54 rfl (lv_at hl 1 rfl) ?_
        refine jg_M_32_33 X hP jd_M_asksForBlock_55 ?_
        refine j_run (j_mkV X hP (c_M_blockSize l d D a n g (n 33 7) (by omega) hz2) jU_b (j_pp X hP) jm_769 jm_768 js_46 jm_6 jm_766 (by decide) rfl rfl (show jOk jy_M_blockSize 1 by unfold jOk; decide +kernel) (by decide) ⟨rfl, rfl⟩ hl.1 rfl (Nat.le_of_ble_eq_true rfl) ⟨Nat.zero_le _, Nat.zero_le _⟩ jd_M_asksForBlock_58) ?_
        refine W.eq (g2 := F0 m 61 ls [.int (nI (n 33 6 * 2 ^ (n 33 7))), .int (nI (k * (n 33 6 * 2 ^ (n 33 7))))]) rfl ?_
        refine kn_iadd X.1 X.2.1 jd_M_asksForBlock_61 ?_
        refine kn_to (y := (k + 1) * (n 33 6 * 2 ^ (n 33 7))) (by rw [Nat.add_mul, Nat.one_mul]) ?_
        refine lv_istore_n X.1 X.2.1 jd_M_asksForBlock_62 rfl hl (by decide) rfl (fun ls hl => ?_)
        have hl : lv_has ls 2 [(1, .int (nI ((k + 1) * (n 33 6 * 2 ^ (n 33 7))))), (0, .ref (a 33))] := hl
        refine lv_goto X.1 X.2.1 jd_M_asksForBlock_63 (tgt := 2) (by decide) ?_
        have hl : lv_has ls 2 [(1, .int (nI ((k + 1) * (n 33 6 * 2 ^ (n 33 7))))), (0, .ref (a 33))] := lv_sub hl [0, 1] rfl
        exact ihr (k + 1) ls (by omega) (fb_none hn h29) hl
      · skip
        refine lv_aload_n X.1 X.2.1 jd_M_asksForBlock_32 rfl (lv_at hl 1 rfl) ?_
        refine lv_aload_n X.1 X.2.1 jd_M_asksForBlock_33 rfl (lv_at hl 1 rfl) ?_
        refine jg_M_32_33 X hP jd_M_asksForBlock_34 ?_
        refine lv_iload_n X.1 X.2.1 jd_M_asksForBlock_37 rfl (lv_at hl 0 rfl) ?_
        refine lv_aload_n X.1 X.2.1 jd_M_asksForBlock_38 rfl (lv_at hl 1 rfl) ?_
        refine lv_iload_n X.1 X.2.1 jd_M_asksForBlock_39 rfl (lv_at hl 0 rfl) ?_
        refine lv_aload_n X.1 X.2.1 jd_M_asksForBlock_40 rfl (lv_at hl 1 rfl) ?_
        refine jg_M_32_33 X hP jd_M_asksForBlock_41 ?_
        refine j_run (j_mkV X hP (c_M_end l d D a n g (n 33 7) (k * (n 33 6 * 2 ^ (n 33 7))) (h4) (by omega) hz2 ht2) jU_b (j_pp X hP) jm_765 jm_764 js_45 jm_6 jm_762 (by decide) rfl rfl (show jOk jy_M_end 2 by unfold jOk; decide +kernel) (by decide) ⟨rfl, rfl⟩ hl.1 rfl (Nat.le_of_ble_eq_true rfl) ⟨Nat.zero_le _, Nat.zero_le _⟩ jd_M_asksForBlock_44) ?_
        refine W.eq (g2 := F0 m 47 ls [.int (nI (beM n (n 33 7) (k * (n 33 6 * 2 ^ (n 33 7))))), .int (nI (k * (n 33 6 * 2 ^ (n 33 7)))), .int (nI (n 33 7)), .ref (a 33)]) rfl ?_
        refine j_rune (j_mkV X hP (c_M_ask l d D a n g hap (n 33 7) (k * (n 33 6 * 2 ^ (n 33 7))) (beM n (n 33 7) (k * (n 33 6 * 2 ^ (n 33 7)))) hz8 hz11 _) jU_bs (j_pe X hP) jm_777 jm_776 js_48 jm_6 jm_774 (by decide) rfl rfl (show jOk jy_M_ask 3 by unfold jOk; decide +kernel) (by decide) ⟨rfl, rfl⟩ hl.1 rfl (Nat.le_of_ble_eq_true rfl) ⟨Nat.zero_le _, Nat.zero_le _⟩ jd_M_asksForBlock_47) hS (fun v47 n47 g47 H locs h47 hP hS => ?_)
        obtain ⟨rfl, rfl, rfl⟩ := h47
        refine W.eq (g2 := F0 m 50 ls []) rfl ?_
        refine lv_iconst (v := nI 1) X.1 X.2.1 jd_M_asksForBlock_50 (by decide) ?_
        exact hQ _ _ _ _ _ _ _ (by decide) (by have e := afM_some (fb_at (by omega) hn h29); rw [e]; exact ⟨rfl, rfl, rfl⟩) hP hS jd_M_asksForBlock_51
  have hl : lv_has ls 2 [(1, .int (nI (0 * (n 33 6 * 2 ^ (n 33 7))))), (0, .ref (a 33))] := by rw [Nat.zero_mul]; exact hl
  have hl : lv_has ls 2 [(1, .int (nI (0 * (n 33 6 * 2 ^ (n 33 7))))), (0, .ref (a 33))] := lv_sub hl [0, 1] rfl
  exact loop2 (bcM n (n 33 7)) 0 ls (by omega) (rfl) hl

set_option maxHeartbeats 4000000 in
theorem c_M_search (l : Launch) (d : Nat → Nat) (D : va_G) (a : Nat → Nat) (n : Nat → Nat → Nat) (g : Nat → Nat) (hap : ∀ i j : Nat, i < 52 → j < 52 → a i = a j → i = j) (hM : MI n) (h4 : n 33 7 < 4) : jEff l d D a n g jy_M_search jb_M_search 8 (some .int) { frames := 2, cells := 0, slots := 0, locals := 46 } [.ref (a 33)] (fun v9 n2 g2 => some (.int (nI (srM n).2)) = v9 ∧ (srM n).1 = n2 ∧ g = g2) := by
  obtain ⟨⟨hz, hz2, ht, ht2⟩, hB, ho, h38, hz8, hz11, hz7, hz9⟩ := hM
  have hs9 := soT_ok (n := n) (by omega) (n 33 7 + 1) (by omega)
  have h01 : ∀ i, mS n 1 i < 2 := fun i => h38 _
  refine je_I (by decide) (Nat.le_of_ble_eq_true rfl) ?_
  intro p e s m A below meth c ls Q X hP hS hl hQ
  have hl : lv_has ls 8 [(0, .ref (a 33))] := hl
  refine lv_iconst (v := nI 4294967295) X.1 X.2.1 jd_M_search_0 (by decide) ?_
  refine lv_istore_n X.1 X.2.1 jd_M_search_1 rfl hl (by decide) rfl (fun ls hl => ?_)
  have hl : lv_has ls 8 [(1, .int (nI 4294967295)), (0, .ref (a 33))] := hl
  refine lv_iconst (v := nI 0) X.1 X.2.1 jd_M_search_2 (by decide) ?_
  refine lv_istore_n X.1 X.2.1 jd_M_search_3 rfl hl (by decide) rfl (fun ls hl => ?_)
  have hl : lv_has ls 8 [(2, .int (nI 0)), (1, .int (nI 4294967295)), (0, .ref (a 33))] := hl
  refine lv_iconst (v := nI 0) X.1 X.2.1 jd_M_search_4 (by decide) ?_
  refine lv_istore_n X.1 X.2.1 jd_M_search_5 rfl hl (by decide) rfl (fun ls hl => ?_)
  have hl : lv_has ls 8 [(3, .int (nI 0)), (2, .int (nI 0)), (1, .int (nI 4294967295)), (0, .ref (a 33))] := hl
  have loop6 : ∀ (rA p9 : Nat) (ls : Array Slot), p9 + rA = n 33 7 + 1 → lv_has ls 8 [(3, .int (nI p9)), (1, .int (nI ((soT n p9).1))), (2, .int (nI ((soT n p9).2))), (0, .ref (a 33))] → W p l e { frames := 2, cells := 0, slots := 0, locals := 46 } s m A below meth c s.heap [] 0 0 Q (F0 m 6 ls []) := by
    intro rA
    induction rA with
    | zero => 
      intro p9 ls hp9 hl
      obtain rfl : n 33 7 + 1 = p9 := by omega
      refine lv_iload_n X.1 X.2.1 jd_M_search_6 rfl (lv_at hl 0 rfl) ?_
      refine lv_aload_n X.1 X.2.1 jd_M_search_7 rfl (lv_at hl 3 rfl) ?_
      refine jg_M_32_33 X hP jd_M_search_8 ?_
      refine kn_cgt X.1 X.2.1 jd_M_search_11 (tgt := 132) (by decide) (by omega) (fun h11 => ?_) (fun h11 => absurd h11 (by omega))
      refine lv_iload_n X.1 X.2.1 jd_M_search_132 rfl (lv_at hl 1 rfl) ?_
      refine lv_iconst (v := nI 4294967295) X.1 X.2.1 jd_M_search_133 (by decide) ?_
      refine kn_cne X.1 X.2.1 jd_M_search_134 (tgt := 139) (by decide) (by omega) (fun h134 => ?_) (fun h134 => ?_)
      · skip
        refine lv_iload_n X.1 X.2.1 jd_M_search_139 rfl (lv_at hl 1 rfl) ?_
        refine lv_istore_n X.1 X.2.1 jd_M_search_140 rfl hl (by decide) rfl (fun ls hl => ?_)
        have hl : lv_has ls 8 [(3, .int (nI ((soT n (n 33 7 + 1)).1))), (1, .int (nI ((soT n (n 33 7 + 1)).1))), (2, .int (nI ((soT n (n 33 7 + 1)).2))), (0, .ref (a 33))] := hl
        refine lv_aload_n X.1 X.2.1 jd_M_search_141 rfl (lv_at hl 3 rfl) ?_
        refine lv_iload_n X.1 X.2.1 jd_M_search_142 rfl (lv_at hl 1 rfl) ?_
        refine lv_iload_n X.1 X.2.1 jd_M_search_143 rfl (lv_at hl 2 rfl) ?_
        refine j_run (j_mkV X hP (c_M_end l d D a n g (soT n (n 33 7 + 1)).2 (soT n (n 33 7 + 1)).1 (by omega) (by omega) hz2 ht2) jU_b (j_pp X hP) jm_765 jm_764 js_45 jm_6 jm_762 (by decide) rfl rfl (show jOk jy_M_end 2 by unfold jOk; decide +kernel) (by decide) ⟨rfl, rfl⟩ hl.1 rfl (Nat.le_of_ble_eq_true rfl) ⟨Nat.zero_le _, Nat.zero_le _⟩ jd_M_search_144) ?_
        refine W.eq (g2 := F0 m 147 ls [.int (nI (beM n (soT n (n 33 7 + 1)).2 (soT n (n 33 7 + 1)).1))]) rfl ?_
        refine lv_istore X.1 X.2.1 jd_M_search_147 hl (by decide) rfl (fun ls hl => ?_)
        have hl : lv_has ls 8 [(4, .int (nI (beM n (soT n (n 33 7 + 1)).2 (soT n (n 33 7 + 1)).1))), (3, .int (nI ((soT n (n 33 7 + 1)).1))), (1, .int (nI ((soT n (n 33 7 + 1)).1))), (2, .int (nI ((soT n (n 33 7 + 1)).2))), (0, .ref (a 33))] := hl
        have hs8 : (soT n (n 33 7 + 1)).1 < n 33 2 := by omega
        have loopH : ∀ (rH k : Nat) (ls : Array Slot), k + rH = 128 → hvI ((soT n (n 33 7 + 1)).1, beM n (soT n (n 33 7 + 1)).2 (soT n (n 33 7 + 1)).1) (hvT n (soT n (n 33 7 + 1)).2 ((soT n (n 33 7 + 1)).1, beM n (soT n (n 33 7 + 1)).2 (soT n (n 33 7 + 1)).1) k) k → lv_has ls 8 [(3, .int (nI ((hvT n (soT n (n 33 7 + 1)).2 ((soT n (n 33 7 + 1)).1, beM n (soT n (n 33 7 + 1)).2 (soT n (n 33 7 + 1)).1) k).1))), (4, .int (nI ((hvT n (soT n (n 33 7 + 1)).2 ((soT n (n 33 7 + 1)).1, beM n (soT n (n 33 7 + 1)).2 (soT n (n 33 7 + 1)).1) k).2))), (1, .int (nI ((soT n (n 33 7 + 1)).1))), (2, .int (nI ((soT n (n 33 7 + 1)).2))), (0, .ref (a 33))] → W p l e { frames := 2, cells := 0, slots := 0, locals := 46 } s m A below meth c s.heap [] 0 0 Q (F0 m 149 ls []) := by
          intro rH
          induction rH with
          | zero => 
            intro k ls hk hI hl
            obtain rfl : 128 = k := by omega
            exfalso; simp only [hvI] at hI; omega
          | succ rH ihrH => 
            intro k ls hk hI hl
            refine lv_iload X.1 X.2.1 jd_M_search_149 (lv_at hl 1 rfl) ?_
            refine lv_iload_n X.1 X.2.1 jd_M_search_151 rfl (lv_at hl 0 rfl) ?_
            refine kn_isub X.1 X.2.1 jd_M_search_152 (by simp only [hvI] at hI; omega) ?_
            refine lv_iconst (v := nI 1) X.1 X.2.1 jd_M_search_153 (by decide) ?_
            refine kn_cle X.1 X.2.1 jd_M_search_154 (tgt := 245) (by decide) (by simp only [hvI] at hI; have hbe2 := beM_le (n := n) (q := (soT n (n 33 7 + 1)).2) (f := (soT n (n 33 7 + 1)).1); omega) (fun h154 => ?_) (fun h154 => ?_)
            · skip
              have hI2 := hI
              simp only [hvI] at hI2
              have hbe2 := beM_le (n := n) (q := (soT n (n 33 7 + 1)).2) (f := (soT n (n 33 7 + 1)).1)
              refine lv_sipush (v := nI 128) X.1 X.2.1 jd_M_search_245 (by decide) ?_
              refine lv_aload_n X.1 X.2.1 jd_M_search_248 rfl (lv_at hl 4 rfl) ?_
              refine jg_M_36_33 X hP jd_M_search_249 ?_
              refine lv_sipush (v := nI 128) X.1 X.2.1 jd_M_search_252 (by decide) ?_
              refine lv_iload_n X.1 X.2.1 jd_M_search_255 rfl (lv_at hl 3 rfl) ?_
              refine kn_imul X.1 X.2.1 jd_M_search_256 ?_
              refine lv_iload_n X.1 X.2.1 jd_M_search_257 rfl (lv_at hl 0 rfl) ?_
              refine kn_iadd X.1 X.2.1 jd_M_search_258 ?_
              refine j_ald X hP 41 ((128 * (soT n (n 33 7 + 1)).2) + (hvT n (soT n (n 33 7 + 1)).2 ((soT n (n 33 7 + 1)).1, beM n (soT n (n 33 7 + 1)).2 (soT n (n 33 7 + 1)).1) k).1) (by decide) (show ((128 * (soT n (n 33 7 + 1)).2) + (hvT n (soT n (n 33 7 + 1)).2 ((soT n (n 33 7 + 1)).1, beM n (soT n (n 33 7 + 1)).2 (soT n (n 33 7 + 1)).1) k).1) < 512 from by omega) (by decide) jd_M_search_259 ?_
              refine kn_iadd X.1 X.2.1 jd_M_search_260 ?_
              refine lv_istore X.1 X.2.1 jd_M_search_261 hl (by decide) rfl (fun ls hl => ?_)
              have hl : lv_has ls 8 [(5, .int (nI (128 + (n 41 ((128 * (soT n (n 33 7 + 1)).2) + (hvT n (soT n (n 33 7 + 1)).2 ((soT n (n 33 7 + 1)).1, beM n (soT n (n 33 7 + 1)).2 (soT n (n 33 7 + 1)).1) k).1))))), (3, .int (nI ((hvT n (soT n (n 33 7 + 1)).2 ((soT n (n 33 7 + 1)).1, beM n (soT n (n 33 7 + 1)).2 (soT n (n 33 7 + 1)).1) k).1))), (4, .int (nI ((hvT n (soT n (n 33 7 + 1)).2 ((soT n (n 33 7 + 1)).1, beM n (soT n (n 33 7 + 1)).2 (soT n (n 33 7 + 1)).1) k).2))), (1, .int (nI ((soT n (n 33 7 + 1)).1))), (2, .int (nI ((soT n (n 33 7 + 1)).2))), (0, .ref (a 33))] := hl
              refine lv_aload_n X.1 X.2.1 jd_M_search_263 rfl (lv_at hl 5 rfl) ?_
              refine jg_M_23_33 X hP jd_M_search_264 ?_
              refine lv_iload X.1 X.2.1 jd_M_search_267 (lv_at hl 0 rfl) ?_
              refine lv_iconst (v := nI 1) X.1 X.2.1 jd_M_search_269 (by decide) ?_
              refine lv_aload_n X.1 X.2.1 jd_M_search_270 rfl (lv_at hl 5 rfl) ?_
              refine jg_M_23_33 X hP jd_M_search_271 ?_
              refine lv_iload X.1 X.2.1 jd_M_search_274 (lv_at hl 0 rfl) ?_
              refine j_ald X hP 38 (128 + (n 41 ((128 * (soT n (n 33 7 + 1)).2) + (hvT n (soT n (n 33 7 + 1)).2 ((soT n (n 33 7 + 1)).1, beM n (soT n (n 33 7 + 1)).2 (soT n (n 33 7 + 1)).1) k).1))) (by decide) (show (128 + (n 41 ((128 * (soT n (n 33 7 + 1)).2) + (hvT n (soT n (n 33 7 + 1)).2 ((soT n (n 33 7 + 1)).1, beM n (soT n (n 33 7 + 1)).2 (soT n (n 33 7 + 1)).1) k).1))) < 256 from by have := ho (soT n (n 33 7 + 1)).2 (hvT n (soT n (n 33 7 + 1)).2 ((soT n (n 33 7 + 1)).1, beM n (soT n (n 33 7 + 1)).2 (soT n (n 33 7 + 1)).1) k).1 (by omega) (by omega); simp only [mO] at this; omega) (by decide) jd_M_search_276 ?_
              refine kn_isub X.1 X.2.1 jd_M_search_277 (by have := h38 (128 + n 41 (128 * (soT n (n 33 7 + 1)).2 + (hvT n (soT n (n 33 7 + 1)).2 ((soT n (n 33 7 + 1)).1, beM n (soT n (n 33 7 + 1)).2 (soT n (n 33 7 + 1)).1) k).1)); omega) ?_
              refine j_ast X hap hP hS 38 (128 + (n 41 ((128 * (soT n (n 33 7 + 1)).2) + (hvT n (soT n (n 33 7 + 1)).2 ((soT n (n 33 7 + 1)).1, beM n (soT n (n 33 7 + 1)).2 (soT n (n 33 7 + 1)).1) k).1))) (1 - (n 38 (128 + (n 41 ((128 * (soT n (n 33 7 + 1)).2) + (hvT n (soT n (n 33 7 + 1)).2 ((soT n (n 33 7 + 1)).1, beM n (soT n (n 33 7 + 1)).2 (soT n (n 33 7 + 1)).1) k).1))))) (by decide) (show (128 + (n 41 ((128 * (soT n (n 33 7 + 1)).2) + (hvT n (soT n (n 33 7 + 1)).2 ((soT n (n 33 7 + 1)).1, beM n (soT n (n 33 7 + 1)).2 (soT n (n 33 7 + 1)).1) k).1))) < 256 from by have := ho (soT n (n 33 7 + 1)).2 (hvT n (soT n (n 33 7 + 1)).2 ((soT n (n 33 7 + 1)).1, beM n (soT n (n 33 7 + 1)).2 (soT n (n 33 7 + 1)).1) k).1 (by omega) (by omega); simp only [mO] at this; omega) (by decide) jd_M_search_278 (fun H locs hP hS => ?_)
              refine lv_iconst (v := nI 1) X.1 X.2.1 jd_M_search_279 (by decide) ?_
              exact hQ _ _ _ _ _ _ _ (by unfold srM hzM; rw [if_neg h134, hvT_128 (k := k) (by omega) (Or.inl h154), if_pos h154]; exact ⟨rfl, rfl, rfl⟩) hP hS jd_M_search_280
            · skip
              have hI2 := hI
              simp only [hvI] at hI2
              have hbe2 := beM_le (n := n) (q := (soT n (n 33 7 + 1)).2) (f := (soT n (n 33 7 + 1)).1)
              have hmd := md_in (w := (hvT n (soT n (n 33 7 + 1)).2 ((soT n (n 33 7 + 1)).1, beM n (soT n (n 33 7 + 1)).2 (soT n (n 33 7 + 1)).1) k)) (by omega)
              refine lv_iload_n X.1 X.2.1 jd_M_search_157 rfl (lv_at hl 0 rfl) ?_
              refine lv_iload X.1 X.2.1 jd_M_search_158 (lv_at hl 1 rfl) ?_
              refine lv_iload_n X.1 X.2.1 jd_M_search_160 rfl (lv_at hl 0 rfl) ?_
              refine kn_isub X.1 X.2.1 jd_M_search_161 (by omega) ?_
              refine lv_iconst (v := nI 1) X.1 X.2.1 jd_M_search_162 (by decide) ?_
              refine kn_iadd X.1 X.2.1 jd_M_search_163 ?_
              refine lv_iconst (v := nI 2) X.1 X.2.1 jd_M_search_164 (by decide) ?_
              refine kn_idiv X.1 X.2.1 jd_M_search_165 (by omega) ?_
              refine kn_iadd X.1 X.2.1 jd_M_search_166 ?_
              refine kn_to (y := mdF (hvT n (soT n (n 33 7 + 1)).2 ((soT n (n 33 7 + 1)).1, beM n (soT n (n 33 7 + 1)).2 (soT n (n 33 7 + 1)).1) k)) (rfl) ?_
              refine lv_istore X.1 X.2.1 jd_M_search_167 hl (by decide) rfl (fun ls hl => ?_)
              have hl : lv_has ls 8 [(5, .int (nI (mdF (hvT n (soT n (n 33 7 + 1)).2 ((soT n (n 33 7 + 1)).1, beM n (soT n (n 33 7 + 1)).2 (soT n (n 33 7 + 1)).1) k)))), (3, .int (nI ((hvT n (soT n (n 33 7 + 1)).2 ((soT n (n 33 7 + 1)).1, beM n (soT n (n 33 7 + 1)).2 (soT n (n 33 7 + 1)).1) k).1))), (4, .int (nI ((hvT n (soT n (n 33 7 + 1)).2 ((soT n (n 33 7 + 1)).1, beM n (soT n (n 33 7 + 1)).2 (soT n (n 33 7 + 1)).1) k).2))), (1, .int (nI ((soT n (n 33 7 + 1)).1))), (2, .int (nI ((soT n (n 33 7 + 1)).2))), (0, .ref (a 33))] := hl
              refine lv_aload_n X.1 X.2.1 jd_M_search_169 rfl (lv_at hl 5 rfl) ?_
              refine lv_iload_n X.1 X.2.1 jd_M_search_170 rfl (lv_at hl 4 rfl) ?_
              refine lv_iload_n X.1 X.2.1 jd_M_search_171 rfl (lv_at hl 1 rfl) ?_
              refine lv_iload X.1 X.2.1 jd_M_search_172 (lv_at hl 0 rfl) ?_
              refine j_run (j_mkV X hP (c_M_known l d D a n g hB (soT n (n 33 7 + 1)).2 (hvT n (soT n (n 33 7 + 1)).2 ((soT n (n 33 7 + 1)).1, beM n (soT n (n 33 7 + 1)).2 (soT n (n 33 7 + 1)).1) k).1 (mdF (hvT n (soT n (n 33 7 + 1)).2 ((soT n (n 33 7 + 1)).1, beM n (soT n (n 33 7 + 1)).2 (soT n (n 33 7 + 1)).1) k)) (by omega) (by omega) (by omega) (by omega)) jU_b (j_pp X hP) jm_773 jm_772 js_47 jm_6 jm_770 (by decide) rfl rfl (show jOk jy_M_known 3 by unfold jOk; decide +kernel) (by decide) ⟨rfl, rfl⟩ hl.1 rfl (Nat.le_of_ble_eq_true rfl) ⟨Nat.zero_le _, Nat.zero_le _⟩ jd_M_search_174) ?_
              refine W.eq (g2 := F0 m 177 ls [.int (nI (kwF n (soT n (n 33 7 + 1)).2 (hvT n (soT n (n 33 7 + 1)).2 ((soT n (n 33 7 + 1)).1, beM n (soT n (n 33 7 + 1)).2 (soT n (n 33 7 + 1)).1) k).1 (mdF (hvT n (soT n (n 33 7 + 1)).2 ((soT n (n 33 7 + 1)).1, beM n (soT n (n 33 7 + 1)).2 (soT n (n 33 7 + 1)).1) k))))]) rfl ?_
              refine lv_istore X.1 X.2.1 jd_M_search_177 hl (by decide) rfl (fun ls hl => ?_)
              have hl : lv_has ls 8 [(6, .int (nI (kwF n (soT n (n 33 7 + 1)).2 (hvT n (soT n (n 33 7 + 1)).2 ((soT n (n 33 7 + 1)).1, beM n (soT n (n 33 7 + 1)).2 (soT n (n 33 7 + 1)).1) k).1 (mdF (hvT n (soT n (n 33 7 + 1)).2 ((soT n (n 33 7 + 1)).1, beM n (soT n (n 33 7 + 1)).2 (soT n (n 33 7 + 1)).1) k))))), (5, .int (nI (mdF (hvT n (soT n (n 33 7 + 1)).2 ((soT n (n 33 7 + 1)).1, beM n (soT n (n 33 7 + 1)).2 (soT n (n 33 7 + 1)).1) k)))), (3, .int (nI ((hvT n (soT n (n 33 7 + 1)).2 ((soT n (n 33 7 + 1)).1, beM n (soT n (n 33 7 + 1)).2 (soT n (n 33 7 + 1)).1) k).1))), (4, .int (nI ((hvT n (soT n (n 33 7 + 1)).2 ((soT n (n 33 7 + 1)).1, beM n (soT n (n 33 7 + 1)).2 (soT n (n 33 7 + 1)).1) k).2))), (1, .int (nI ((soT n (n 33 7 + 1)).1))), (2, .int (nI ((soT n (n 33 7 + 1)).2))), (0, .ref (a 33))] := hl
              refine lv_iload X.1 X.2.1 jd_M_search_179 (lv_at hl 0 rfl) ?_
              refine lv_iconst (v := nI 4294967295) X.1 X.2.1 jd_M_search_181 (by decide) ?_
              refine kn_cne X.1 X.2.1 jd_M_search_182 (tgt := 195) (by decide) (⟨kw_lt hB _ _ _, by decide⟩) (fun h182 => ?_) (fun h182 => ?_)
              · skip
                refine lv_iload X.1 X.2.1 jd_M_search_195 (lv_at hl 0 rfl) ?_
                refine lv_aload_n X.1 X.2.1 jd_M_search_197 rfl (lv_at hl 6 rfl) ?_
                refine lv_iconst (v := nI 1) X.1 X.2.1 jd_M_search_198 (by decide) ?_
                refine lv_iload_n X.1 X.2.1 jd_M_search_199 rfl (lv_at hl 5 rfl) ?_
                refine lv_iload_n X.1 X.2.1 jd_M_search_200 rfl (lv_at hl 2 rfl) ?_
                refine lv_iload X.1 X.2.1 jd_M_search_201 (lv_at hl 1 rfl) ?_
                refine j_run (j_mkV X hP (c_M_parityAt l d D a n g 1 (soT n (n 33 7 + 1)).2 (hvT n (soT n (n 33 7 + 1)).2 ((soT n (n 33 7 + 1)).1, beM n (soT n (n 33 7 + 1)).2 (soT n (n 33 7 + 1)).1) k).1 (mdF (hvT n (soT n (n 33 7 + 1)).2 ((soT n (n 33 7 + 1)).1, beM n (soT n (n 33 7 + 1)).2 (soT n (n 33 7 + 1)).1) k)) (by decide) (by omega) (by omega) (by omega) (fun i hi => ho _ _ (by omega) (by omega))) jU_b (j_pp X hP) jm_789 jm_788 js_51 jm_6 jm_786 (by decide) rfl rfl (show jOk jy_M_parityAt 4 by unfold jOk; decide +kernel) (by decide) ⟨rfl, rfl⟩ hl.1 rfl (Nat.le_of_ble_eq_true rfl) ⟨Nat.zero_le _, Nat.zero_le _⟩ jd_M_search_203) ?_
                refine W.eq (g2 := F0 m 206 ls [.int (nI (parF (mS n 1) (mO n (soT n (n 33 7 + 1)).2) (hvT n (soT n (n 33 7 + 1)).2 ((soT n (n 33 7 + 1)).1, beM n (soT n (n 33 7 + 1)).2 (soT n (n 33 7 + 1)).1) k).1 ((mdF (hvT n (soT n (n 33 7 + 1)).2 ((soT n (n 33 7 + 1)).1, beM n (soT n (n 33 7 + 1)).2 (soT n (n 33 7 + 1)).1) k)) - (hvT n (soT n (n 33 7 + 1)).2 ((soT n (n 33 7 + 1)).1, beM n (soT n (n 33 7 + 1)).2 (soT n (n 33 7 + 1)).1) k).1))), .int (nI (kwF n (soT n (n 33 7 + 1)).2 (hvT n (soT n (n 33 7 + 1)).2 ((soT n (n 33 7 + 1)).1, beM n (soT n (n 33 7 + 1)).2 (soT n (n 33 7 + 1)).1) k).1 (mdF (hvT n (soT n (n 33 7 + 1)).2 ((soT n (n 33 7 + 1)).1, beM n (soT n (n 33 7 + 1)).2 (soT n (n 33 7 + 1)).1) k))))]) rfl ?_
                refine kn_ceq X.1 X.2.1 jd_M_search_206 (tgt := 213) (by decide) (⟨kw_lt hB _ _ _, by have := parF_lt (ord := mO n (soT n (n 33 7 + 1)).2) (f := (hvT n (soT n (n 33 7 + 1)).2 ((soT n (n 33 7 + 1)).1, beM n (soT n (n 33 7 + 1)).2 (soT n (n 33 7 + 1)).1) k).1) h01 (mdF (hvT n (soT n (n 33 7 + 1)).2 ((soT n (n 33 7 + 1)).1, beM n (soT n (n 33 7 + 1)).2 (soT n (n 33 7 + 1)).1) k) - (hvT n (soT n (n 33 7 + 1)).2 ((soT n (n 33 7 + 1)).1, beM n (soT n (n 33 7 + 1)).2 (soT n (n 33 7 + 1)).1) k).1); omega⟩) (fun h206 => ?_) (fun h206 => ?_)
                · skip
                  refine lv_iconst (v := nI 0) X.1 X.2.1 jd_M_search_213 (by decide) ?_
                  refine lv_istore X.1 X.2.1 jd_M_search_214 hl (by decide) rfl (fun ls hl => ?_)
                  have hl : lv_has ls 8 [(7, .int (nI 0)), (6, .int (nI (kwF n (soT n (n 33 7 + 1)).2 (hvT n (soT n (n 33 7 + 1)).2 ((soT n (n 33 7 + 1)).1, beM n (soT n (n 33 7 + 1)).2 (soT n (n 33 7 + 1)).1) k).1 (mdF (hvT n (soT n (n 33 7 + 1)).2 ((soT n (n 33 7 + 1)).1, beM n (soT n (n 33 7 + 1)).2 (soT n (n 33 7 + 1)).1) k))))), (5, .int (nI (mdF (hvT n (soT n (n 33 7 + 1)).2 ((soT n (n 33 7 + 1)).1, beM n (soT n (n 33 7 + 1)).2 (soT n (n 33 7 + 1)).1) k)))), (3, .int (nI ((hvT n (soT n (n 33 7 + 1)).2 ((soT n (n 33 7 + 1)).1, beM n (soT n (n 33 7 + 1)).2 (soT n (n 33 7 + 1)).1) k).1))), (4, .int (nI ((hvT n (soT n (n 33 7 + 1)).2 ((soT n (n 33 7 + 1)).1, beM n (soT n (n 33 7 + 1)).2 (soT n (n 33 7 + 1)).1) k).2))), (1, .int (nI ((soT n (n 33 7 + 1)).1))), (2, .int (nI ((soT n (n 33 7 + 1)).2))), (0, .ref (a 33))] := hl
                  refine lv_iload X.1 X.2.1 jd_M_search_216 (lv_at hl 0 rfl) ?_
                  refine kn_eq0 X.1 X.2.1 jd_M_search_218 (tgt := 226) (by decide) (by omega) (fun h218 => ?_) (fun h218 => absurd h218 (by decide))
                  refine lv_iload X.1 X.2.1 jd_M_search_226 (lv_at hl 4 rfl) ?_
                  refine lv_istore X.1 X.2.1 jd_M_search_228 hl (by decide) rfl (fun ls hl => ?_)
                  have hl : lv_has ls 8 [(4, .int (nI ((hvT n (soT n (n 33 7 + 1)).2 ((soT n (n 33 7 + 1)).1, beM n (soT n (n 33 7 + 1)).2 (soT n (n 33 7 + 1)).1) k).2))), (7, .int (nI 0)), (6, .int (nI (kwF n (soT n (n 33 7 + 1)).2 (hvT n (soT n (n 33 7 + 1)).2 ((soT n (n 33 7 + 1)).1, beM n (soT n (n 33 7 + 1)).2 (soT n (n 33 7 + 1)).1) k).1 (mdF (hvT n (soT n (n 33 7 + 1)).2 ((soT n (n 33 7 + 1)).1, beM n (soT n (n 33 7 + 1)).2 (soT n (n 33 7 + 1)).1) k))))), (5, .int (nI (mdF (hvT n (soT n (n 33 7 + 1)).2 ((soT n (n 33 7 + 1)).1, beM n (soT n (n 33 7 + 1)).2 (soT n (n 33 7 + 1)).1) k)))), (3, .int (nI ((hvT n (soT n (n 33 7 + 1)).2 ((soT n (n 33 7 + 1)).1, beM n (soT n (n 33 7 + 1)).2 (soT n (n 33 7 + 1)).1) k).1))), (1, .int (nI ((soT n (n 33 7 + 1)).1))), (2, .int (nI ((soT n (n 33 7 + 1)).2))), (0, .ref (a 33))] := hl
                  refine lv_iload X.1 X.2.1 jd_M_search_230 (lv_at hl 1 rfl) ?_
                  refine kn_eq0 X.1 X.2.1 jd_M_search_232 (tgt := 239) (by decide) (by omega) (fun h232 => ?_) (fun h232 => absurd h232 (by decide))
                  refine lv_iload X.1 X.2.1 jd_M_search_239 (lv_at hl 3 rfl) ?_
                  refine lv_istore_n X.1 X.2.1 jd_M_search_241 rfl hl (by decide) rfl (fun ls hl => ?_)
                  have hl : lv_has ls 8 [(3, .int (nI (mdF (hvT n (soT n (n 33 7 + 1)).2 ((soT n (n 33 7 + 1)).1, beM n (soT n (n 33 7 + 1)).2 (soT n (n 33 7 + 1)).1) k)))), (4, .int (nI ((hvT n (soT n (n 33 7 + 1)).2 ((soT n (n 33 7 + 1)).1, beM n (soT n (n 33 7 + 1)).2 (soT n (n 33 7 + 1)).1) k).2))), (7, .int (nI 0)), (6, .int (nI (kwF n (soT n (n 33 7 + 1)).2 (hvT n (soT n (n 33 7 + 1)).2 ((soT n (n 33 7 + 1)).1, beM n (soT n (n 33 7 + 1)).2 (soT n (n 33 7 + 1)).1) k).1 (mdF (hvT n (soT n (n 33 7 + 1)).2 ((soT n (n 33 7 + 1)).1, beM n (soT n (n 33 7 + 1)).2 (soT n (n 33 7 + 1)).1) k))))), (5, .int (nI (mdF (hvT n (soT n (n 33 7 + 1)).2 ((soT n (n 33 7 + 1)).1, beM n (soT n (n 33 7 + 1)).2 (soT n (n 33 7 + 1)).1) k)))), (1, .int (nI ((soT n (n 33 7 + 1)).1))), (2, .int (nI ((soT n (n 33 7 + 1)).2))), (0, .ref (a 33))] := hl
                  refine lv_goto X.1 X.2.1 jd_M_search_242 (tgt := 149) (by decide) ?_
                  have hl : lv_has ls 8 [(3, .int (nI ((hvT n (soT n (n 33 7 + 1)).2 ((soT n (n 33 7 + 1)).1, beM n (soT n (n 33 7 + 1)).2 (soT n (n 33 7 + 1)).1) (k + 1)).1))), (4, .int (nI ((hvT n (soT n (n 33 7 + 1)).2 ((soT n (n 33 7 + 1)).1, beM n (soT n (n 33 7 + 1)).2 (soT n (n 33 7 + 1)).1) (k + 1)).2))), (1, .int (nI ((soT n (n 33 7 + 1)).1))), (2, .int (nI ((soT n (n 33 7 + 1)).2))), (0, .ref (a 33))] := by first | exact lv_sub hl [0, 1, 5, 6, 7] rfl | (simp only [hvT]; first | (rw [if_pos (by first | exact h154 | omega)]; rw [if_pos (by first | exact h182 | omega)]; rw [if_pos (by first | exact h206 | omega)]; exact lv_sub hl [0, 1, 5, 6, 7] rfl) | (rw [if_pos (by first | exact h154 | omega)]; rw [if_pos (by first | exact h182 | omega)]; rw [if_neg (by first | exact h206 | omega)]; exact lv_sub hl [0, 1, 5, 6, 7] rfl) | (rw [if_pos (by first | exact h154 | omega)]; rw [if_neg (by first | exact h182 | omega)]; rw [if_pos (by first | exact h206 | omega)]; exact lv_sub hl [0, 1, 5, 6, 7] rfl) | (rw [if_pos (by first | exact h154 | omega)]; rw [if_neg (by first | exact h182 | omega)]; rw [if_neg (by first | exact h206 | omega)]; exact lv_sub hl [0, 1, 5, 6, 7] rfl) | (rw [if_neg (by first | exact h154 | omega)]; rw [if_pos (by first | exact h182 | omega)]; rw [if_pos (by first | exact h206 | omega)]; exact lv_sub hl [0, 1, 5, 6, 7] rfl) | (rw [if_neg (by first | exact h154 | omega)]; rw [if_pos (by first | exact h182 | omega)]; rw [if_neg (by first | exact h206 | omega)]; exact lv_sub hl [0, 1, 5, 6, 7] rfl) | (rw [if_neg (by first | exact h154 | omega)]; rw [if_neg (by first | exact h182 | omega)]; rw [if_pos (by first | exact h206 | omega)]; exact lv_sub hl [0, 1, 5, 6, 7] rfl) | (rw [if_neg (by first | exact h154 | omega)]; rw [if_neg (by first | exact h182 | omega)]; rw [if_neg (by first | exact h206 | omega)]; exact lv_sub hl [0, 1, 5, 6, 7] rfl) | (rw [if_pos (by first | exact h154 | omega)]; rw [if_pos (by first | exact h182 | omega)]; exact lv_sub hl [0, 1, 5, 6, 7] rfl) | (rw [if_pos (by first | exact h154 | omega)]; rw [if_neg (by first | exact h182 | omega)]; exact lv_sub hl [0, 1, 5, 6, 7] rfl) | (rw [if_neg (by first | exact h154 | omega)]; rw [if_pos (by first | exact h182 | omega)]; exact lv_sub hl [0, 1, 5, 6, 7] rfl) | (rw [if_neg (by first | exact h154 | omega)]; rw [if_neg (by first | exact h182 | omega)]; exact lv_sub hl [0, 1, 5, 6, 7] rfl) | (rw [if_pos (by first | exact h154 | omega)]; exact lv_sub hl [0, 1, 5, 6, 7] rfl) | (rw [if_neg (by first | exact h154 | omega)]; exact lv_sub hl [0, 1, 5, 6, 7] rfl))
                  exact ihrH (k + 1) ls (by omega) (hvT_next hI (by omega) h182) hl
                · skip
                  refine lv_iconst (v := nI 1) X.1 X.2.1 jd_M_search_209 (by decide) ?_
                  refine lv_goto X.1 X.2.1 jd_M_search_210 (tgt := 214) (by decide) ?_
                  refine lv_istore X.1 X.2.1 jd_M_search_214 hl (by decide) rfl (fun ls hl => ?_)
                  have hl : lv_has ls 8 [(7, .int (nI 1)), (6, .int (nI (kwF n (soT n (n 33 7 + 1)).2 (hvT n (soT n (n 33 7 + 1)).2 ((soT n (n 33 7 + 1)).1, beM n (soT n (n 33 7 + 1)).2 (soT n (n 33 7 + 1)).1) k).1 (mdF (hvT n (soT n (n 33 7 + 1)).2 ((soT n (n 33 7 + 1)).1, beM n (soT n (n 33 7 + 1)).2 (soT n (n 33 7 + 1)).1) k))))), (5, .int (nI (mdF (hvT n (soT n (n 33 7 + 1)).2 ((soT n (n 33 7 + 1)).1, beM n (soT n (n 33 7 + 1)).2 (soT n (n 33 7 + 1)).1) k)))), (3, .int (nI ((hvT n (soT n (n 33 7 + 1)).2 ((soT n (n 33 7 + 1)).1, beM n (soT n (n 33 7 + 1)).2 (soT n (n 33 7 + 1)).1) k).1))), (4, .int (nI ((hvT n (soT n (n 33 7 + 1)).2 ((soT n (n 33 7 + 1)).1, beM n (soT n (n 33 7 + 1)).2 (soT n (n 33 7 + 1)).1) k).2))), (1, .int (nI ((soT n (n 33 7 + 1)).1))), (2, .int (nI ((soT n (n 33 7 + 1)).2))), (0, .ref (a 33))] := hl
                  refine lv_iload X.1 X.2.1 jd_M_search_216 (lv_at hl 0 rfl) ?_
                  refine kn_eq0 X.1 X.2.1 jd_M_search_218 (tgt := 226) (by decide) (by omega) (fun h218 => absurd h218 (by decide)) (fun h218 => ?_)
                  refine lv_iload X.1 X.2.1 jd_M_search_221 (lv_at hl 2 rfl) ?_
                  refine lv_goto X.1 X.2.1 jd_M_search_223 (tgt := 228) (by decide) ?_
                  refine lv_istore X.1 X.2.1 jd_M_search_228 hl (by decide) rfl (fun ls hl => ?_)
                  have hl : lv_has ls 8 [(4, .int (nI (mdF (hvT n (soT n (n 33 7 + 1)).2 ((soT n (n 33 7 + 1)).1, beM n (soT n (n 33 7 + 1)).2 (soT n (n 33 7 + 1)).1) k)))), (7, .int (nI 1)), (6, .int (nI (kwF n (soT n (n 33 7 + 1)).2 (hvT n (soT n (n 33 7 + 1)).2 ((soT n (n 33 7 + 1)).1, beM n (soT n (n 33 7 + 1)).2 (soT n (n 33 7 + 1)).1) k).1 (mdF (hvT n (soT n (n 33 7 + 1)).2 ((soT n (n 33 7 + 1)).1, beM n (soT n (n 33 7 + 1)).2 (soT n (n 33 7 + 1)).1) k))))), (5, .int (nI (mdF (hvT n (soT n (n 33 7 + 1)).2 ((soT n (n 33 7 + 1)).1, beM n (soT n (n 33 7 + 1)).2 (soT n (n 33 7 + 1)).1) k)))), (3, .int (nI ((hvT n (soT n (n 33 7 + 1)).2 ((soT n (n 33 7 + 1)).1, beM n (soT n (n 33 7 + 1)).2 (soT n (n 33 7 + 1)).1) k).1))), (1, .int (nI ((soT n (n 33 7 + 1)).1))), (2, .int (nI ((soT n (n 33 7 + 1)).2))), (0, .ref (a 33))] := hl
                  refine lv_iload X.1 X.2.1 jd_M_search_230 (lv_at hl 1 rfl) ?_
                  refine kn_eq0 X.1 X.2.1 jd_M_search_232 (tgt := 239) (by decide) (by omega) (fun h232 => absurd h232 (by decide)) (fun h232 => ?_)
                  refine lv_iload_n X.1 X.2.1 jd_M_search_235 rfl (lv_at hl 4 rfl) ?_
                  refine lv_goto X.1 X.2.1 jd_M_search_236 (tgt := 241) (by decide) ?_
                  refine lv_istore_n X.1 X.2.1 jd_M_search_241 rfl hl (by decide) rfl (fun ls hl => ?_)
                  have hl : lv_has ls 8 [(3, .int (nI ((hvT n (soT n (n 33 7 + 1)).2 ((soT n (n 33 7 + 1)).1, beM n (soT n (n 33 7 + 1)).2 (soT n (n 33 7 + 1)).1) k).1))), (4, .int (nI (mdF (hvT n (soT n (n 33 7 + 1)).2 ((soT n (n 33 7 + 1)).1, beM n (soT n (n 33 7 + 1)).2 (soT n (n 33 7 + 1)).1) k)))), (7, .int (nI 1)), (6, .int (nI (kwF n (soT n (n 33 7 + 1)).2 (hvT n (soT n (n 33 7 + 1)).2 ((soT n (n 33 7 + 1)).1, beM n (soT n (n 33 7 + 1)).2 (soT n (n 33 7 + 1)).1) k).1 (mdF (hvT n (soT n (n 33 7 + 1)).2 ((soT n (n 33 7 + 1)).1, beM n (soT n (n 33 7 + 1)).2 (soT n (n 33 7 + 1)).1) k))))), (5, .int (nI (mdF (hvT n (soT n (n 33 7 + 1)).2 ((soT n (n 33 7 + 1)).1, beM n (soT n (n 33 7 + 1)).2 (soT n (n 33 7 + 1)).1) k)))), (1, .int (nI ((soT n (n 33 7 + 1)).1))), (2, .int (nI ((soT n (n 33 7 + 1)).2))), (0, .ref (a 33))] := hl
                  refine lv_goto X.1 X.2.1 jd_M_search_242 (tgt := 149) (by decide) ?_
                  have hl : lv_has ls 8 [(3, .int (nI ((hvT n (soT n (n 33 7 + 1)).2 ((soT n (n 33 7 + 1)).1, beM n (soT n (n 33 7 + 1)).2 (soT n (n 33 7 + 1)).1) (k + 1)).1))), (4, .int (nI ((hvT n (soT n (n 33 7 + 1)).2 ((soT n (n 33 7 + 1)).1, beM n (soT n (n 33 7 + 1)).2 (soT n (n 33 7 + 1)).1) (k + 1)).2))), (1, .int (nI ((soT n (n 33 7 + 1)).1))), (2, .int (nI ((soT n (n 33 7 + 1)).2))), (0, .ref (a 33))] := by first | exact lv_sub hl [0, 1, 5, 6, 7] rfl | (simp only [hvT]; first | (rw [if_pos (by first | exact h154 | omega)]; rw [if_pos (by first | exact h182 | omega)]; rw [if_pos (by first | exact h206 | omega)]; exact lv_sub hl [0, 1, 5, 6, 7] rfl) | (rw [if_pos (by first | exact h154 | omega)]; rw [if_pos (by first | exact h182 | omega)]; rw [if_neg (by first | exact h206 | omega)]; exact lv_sub hl [0, 1, 5, 6, 7] rfl) | (rw [if_pos (by first | exact h154 | omega)]; rw [if_neg (by first | exact h182 | omega)]; rw [if_pos (by first | exact h206 | omega)]; exact lv_sub hl [0, 1, 5, 6, 7] rfl) | (rw [if_pos (by first | exact h154 | omega)]; rw [if_neg (by first | exact h182 | omega)]; rw [if_neg (by first | exact h206 | omega)]; exact lv_sub hl [0, 1, 5, 6, 7] rfl) | (rw [if_neg (by first | exact h154 | omega)]; rw [if_pos (by first | exact h182 | omega)]; rw [if_pos (by first | exact h206 | omega)]; exact lv_sub hl [0, 1, 5, 6, 7] rfl) | (rw [if_neg (by first | exact h154 | omega)]; rw [if_pos (by first | exact h182 | omega)]; rw [if_neg (by first | exact h206 | omega)]; exact lv_sub hl [0, 1, 5, 6, 7] rfl) | (rw [if_neg (by first | exact h154 | omega)]; rw [if_neg (by first | exact h182 | omega)]; rw [if_pos (by first | exact h206 | omega)]; exact lv_sub hl [0, 1, 5, 6, 7] rfl) | (rw [if_neg (by first | exact h154 | omega)]; rw [if_neg (by first | exact h182 | omega)]; rw [if_neg (by first | exact h206 | omega)]; exact lv_sub hl [0, 1, 5, 6, 7] rfl) | (rw [if_pos (by first | exact h154 | omega)]; rw [if_pos (by first | exact h182 | omega)]; exact lv_sub hl [0, 1, 5, 6, 7] rfl) | (rw [if_pos (by first | exact h154 | omega)]; rw [if_neg (by first | exact h182 | omega)]; exact lv_sub hl [0, 1, 5, 6, 7] rfl) | (rw [if_neg (by first | exact h154 | omega)]; rw [if_pos (by first | exact h182 | omega)]; exact lv_sub hl [0, 1, 5, 6, 7] rfl) | (rw [if_neg (by first | exact h154 | omega)]; rw [if_neg (by first | exact h182 | omega)]; exact lv_sub hl [0, 1, 5, 6, 7] rfl) | (rw [if_pos (by first | exact h154 | omega)]; exact lv_sub hl [0, 1, 5, 6, 7] rfl) | (rw [if_neg (by first | exact h154 | omega)]; exact lv_sub hl [0, 1, 5, 6, 7] rfl))
                  exact ihrH (k + 1) ls (by omega) (hvT_next hI (by omega) h182) hl
              · skip
                refine lv_aload_n X.1 X.2.1 jd_M_search_185 rfl (lv_at hl 6 rfl) ?_
                refine lv_iload_n X.1 X.2.1 jd_M_search_186 rfl (lv_at hl 5 rfl) ?_
                refine lv_iload_n X.1 X.2.1 jd_M_search_187 rfl (lv_at hl 2 rfl) ?_
                refine lv_iload X.1 X.2.1 jd_M_search_188 (lv_at hl 1 rfl) ?_
                refine j_rune (j_mkV X hP (c_M_ask l d D a n g hap (soT n (n 33 7 + 1)).2 (hvT n (soT n (n 33 7 + 1)).2 ((soT n (n 33 7 + 1)).1, beM n (soT n (n 33 7 + 1)).2 (soT n (n 33 7 + 1)).1) k).1 (mdF (hvT n (soT n (n 33 7 + 1)).2 ((soT n (n 33 7 + 1)).1, beM n (soT n (n 33 7 + 1)).2 (soT n (n 33 7 + 1)).1) k)) hz8 hz11 _) jU_bs (j_pe X hP) jm_777 jm_776 js_48 jm_6 jm_774 (by decide) rfl rfl (show jOk jy_M_ask 3 by unfold jOk; decide +kernel) (by decide) ⟨rfl, rfl⟩ hl.1 rfl (Nat.le_of_ble_eq_true rfl) ⟨Nat.zero_le _, Nat.zero_le _⟩ jd_M_search_190) hS (fun v190 n190 g190 H locs h190 hP hS => ?_)
                obtain ⟨rfl, rfl, rfl⟩ := h190
                refine W.eq (g2 := F0 m 193 ls []) rfl ?_
                refine lv_iconst (v := nI 2) X.1 X.2.1 jd_M_search_193 (by decide) ?_
                exact hQ _ _ _ _ _ _ _ (by unfold srM hzM; rw [if_neg h134, hvT_128 (k := k) (by omega) (Or.inr h182), if_neg (by omega)]; exact ⟨rfl, rfl, rfl⟩) hP hS jd_M_search_194
        have hl : lv_has ls 8 [(3, .int (nI ((hvT n (soT n (n 33 7 + 1)).2 ((soT n (n 33 7 + 1)).1, beM n (soT n (n 33 7 + 1)).2 (soT n (n 33 7 + 1)).1) 0).1))), (4, .int (nI ((hvT n (soT n (n 33 7 + 1)).2 ((soT n (n 33 7 + 1)).1, beM n (soT n (n 33 7 + 1)).2 (soT n (n 33 7 + 1)).1) 0).2))), (1, .int (nI ((soT n (n 33 7 + 1)).1))), (2, .int (nI ((soT n (n 33 7 + 1)).2))), (0, .ref (a 33))] := lv_sub hl [1, 0, 2, 3, 4] rfl
        exact loopH (128) 0 ls (by omega) (by have h9 := beM_gt (n := n) (q := (soT n (n 33 7 + 1)).2) (f := (soT n (n 33 7 + 1)).1) hz (by omega); have h8 := beM_le (n := n) (q := (soT n (n 33 7 + 1)).2) (f := (soT n (n 33 7 + 1)).1); exact ⟨h9, by show beM n (soT n (n 33 7 + 1)).2 (soT n (n 33 7 + 1)).1 - (soT n (n 33 7 + 1)).1 + 0 ≤ 128; omega, Nat.le_refl _, Nat.le_refl _⟩) hl
      · skip
        refine lv_iconst (v := nI 0) X.1 X.2.1 jd_M_search_137 (by decide) ?_
        exact hQ _ _ _ _ _ _ _ (by unfold srM; rw [if_pos h134]; exact ⟨rfl, rfl, rfl⟩) hP hS jd_M_search_138
    | succ rA ihrA => 
      intro p9 ls hp9 hl
      refine lv_iload_n X.1 X.2.1 jd_M_search_6 rfl (lv_at hl 0 rfl) ?_
      refine lv_aload_n X.1 X.2.1 jd_M_search_7 rfl (lv_at hl 3 rfl) ?_
      refine jg_M_32_33 X hP jd_M_search_8 ?_
      refine kn_cgt X.1 X.2.1 jd_M_search_11 (tgt := 132) (by decide) (by omega) (fun h11 => absurd h11 (by omega)) (fun h11 => ?_)
      refine lv_iconst (v := nI 0) X.1 X.2.1 jd_M_search_14 (by decide) ?_
      refine lv_istore X.1 X.2.1 jd_M_search_15 hl (by decide) rfl (fun ls hl => ?_)
      have hl : lv_has ls 8 [(4, .int (nI 0)), (3, .int (nI p9)), (1, .int (nI ((soT n p9).1))), (2, .int (nI ((soT n p9).2))), (0, .ref (a 33))] := hl
      have hl : lv_has ls 8 [(4, .int (nI 0)), (3, .int (nI p9)), (1, .int (nI ((soT n p9).1))), (2, .int (nI ((soT n p9).2))), (0, .ref (a 33))] := lv_sub hl [0, 1, 2, 3, 4] rfl
      have loopB : ∀ (rB k : Nat) (ls : Array Slot), k + rB = bcM n p9 → lv_has ls 8 [(4, .int (nI (k * (n 33 6 * 2 ^ p9)))), (3, .int (nI p9)), (1, .int (nI ((sbT n p9 (soT n p9) k).1))), (2, .int (nI ((sbT n p9 (soT n p9) k).2))), (0, .ref (a 33))] → W p l e { frames := 2, cells := 0, slots := 0, locals := 46 } s m A below meth c s.heap [] 0 0 Q (F0 m 17 ls []) := by
        intro rB
        induction rB with
        | zero => 
          intro k ls hk hl
          obtain rfl : bcM n p9 = k := by omega
          refine lv_iload X.1 X.2.1 jd_M_search_17 (lv_at hl 0 rfl) ?_
          refine lv_aload_n X.1 X.2.1 jd_M_search_19 rfl (lv_at hl 4 rfl) ?_
          refine jg_M_85_33 X hP jd_M_search_20 ?_
          refine kn_cge X.1 X.2.1 jd_M_search_23 (tgt := 126) (by decide) (by have hg := blM_ge (n := n) (q := p9) hz; have hc := bcM_le (n := n) (q := p9) hz ht2; have hs := bsM_le (n := n) (p := p9) hz2 (by omega); first | (have hbl := blM_lt (n := n) (q := p9) (b := k) (by omega) (by omega); omega) | (have hm := Nat.mul_le_mul hc hs; omega)) (fun h23 => ?_) (fun h23 => absurd h23 (by first | (have hg := blM_ge (n := n) (q := p9) hz; omega) | (have hbl := blM_lt (n := n) (q := p9) (b := k) (by omega) (by omega); omega)))
          refine lv_iinc (k := 1) (v := nI (p9 + 1)) X.1 X.2.1 jd_M_search_126 hl rfl (kn_inc _) (by decide) rfl (fun ls hl => ?_)
          have hl : lv_has ls 8 [(3, .int (nI (p9 + 1))), (4, .int (nI ((bcM n p9) * (n 33 6 * 2 ^ p9)))), (1, .int (nI ((sbT n p9 (soT n p9) (bcM n p9)).1))), (2, .int (nI ((sbT n p9 (soT n p9) (bcM n p9)).2))), (0, .ref (a 33))] := hl
          refine lv_goto X.1 X.2.1 jd_M_search_129 (tgt := 6) (by decide) ?_
          have hl : lv_has ls 8 [(3, .int (nI (p9 + 1))), (1, .int (nI ((soT n (p9 + 1)).1))), (2, .int (nI ((soT n (p9 + 1)).2))), (0, .ref (a 33))] := lv_sub hl [0, 2, 3, 4] rfl
          exact ihrA (p9 + 1) ls (by omega) hl
        | succ rB ihrB => 
          intro k ls hk hl
          refine lv_iload X.1 X.2.1 jd_M_search_17 (lv_at hl 0 rfl) ?_
          refine lv_aload_n X.1 X.2.1 jd_M_search_19 rfl (lv_at hl 4 rfl) ?_
          refine jg_M_85_33 X hP jd_M_search_20 ?_
          refine kn_cge X.1 X.2.1 jd_M_search_23 (tgt := 126) (by decide) (by have hg := blM_ge (n := n) (q := p9) hz; have hc := bcM_le (n := n) (q := p9) hz ht2; have hs := bsM_le (n := n) (p := p9) hz2 (by omega); first | (have hbl := blM_lt (n := n) (q := p9) (b := k) (by omega) (by omega); omega) | (have hm := Nat.mul_le_mul hc hs; omega)) (fun h23 => absurd h23 (by first | (have hg := blM_ge (n := n) (q := p9) hz; omega) | (have hbl := blM_lt (n := n) (q := p9) (b := k) (by omega) (by omega); omega))) (fun h23 => ?_)
          have hbl := blM_lt (n := n) (q := p9) (b := k) (by omega) (by omega)
          have hbe := beM_gt (n := n) (q := p9) (f := (k * (n 33 6 * 2 ^ p9))) hz hbl
          have hbe2 := beM_le (n := n) (q := p9) (f := (k * (n 33 6 * 2 ^ p9)))
          have hok := sbT_ok (n := n) (q := p9) (z := soT n p9) (by omega) (by omega) (soT_ok (by omega) p9 (by omega)) k (by omega)
          refine lv_aload_n X.1 X.2.1 jd_M_search_26 rfl (lv_at hl 4 rfl) ?_
          refine lv_iload_n X.1 X.2.1 jd_M_search_27 rfl (lv_at hl 1 rfl) ?_
          refine lv_iload X.1 X.2.1 jd_M_search_28 (lv_at hl 0 rfl) ?_
          refine lv_aload_n X.1 X.2.1 jd_M_search_30 rfl (lv_at hl 4 rfl) ?_
          refine lv_iload X.1 X.2.1 jd_M_search_31 (lv_at hl 0 rfl) ?_
          refine lv_iload_n X.1 X.2.1 jd_M_search_33 rfl (lv_at hl 1 rfl) ?_
          refine j_run (j_mkV X hP (c_M_end l d D a n g p9 (k * (n 33 6 * 2 ^ p9)) (by omega) (by omega) hz2 ht2) jU_b (j_pp X hP) jm_765 jm_764 js_45 jm_6 jm_762 (by decide) rfl rfl (show jOk jy_M_end 2 by unfold jOk; decide +kernel) (by decide) ⟨rfl, rfl⟩ hl.1 rfl (Nat.le_of_ble_eq_true rfl) ⟨Nat.zero_le _, Nat.zero_le _⟩ jd_M_search_34) ?_
          refine W.eq (g2 := F0 m 37 ls [.int (nI (beM n p9 (k * (n 33 6 * 2 ^ p9)))), .int (nI (k * (n 33 6 * 2 ^ p9))), .int (nI p9), .ref (a 33)]) rfl ?_
          refine j_run (j_mkV X hP (c_M_known l d D a n g hB p9 (k * (n 33 6 * 2 ^ p9)) (beM n p9 (k * (n 33 6 * 2 ^ p9))) (by omega) (by omega) (by omega) (by omega)) jU_b (j_pp X hP) jm_773 jm_772 js_47 jm_6 jm_770 (by decide) rfl rfl (show jOk jy_M_known 3 by unfold jOk; decide +kernel) (by decide) ⟨rfl, rfl⟩ hl.1 rfl (Nat.le_of_ble_eq_true rfl) ⟨Nat.zero_le _, Nat.zero_le _⟩ jd_M_search_37) ?_
          refine W.eq (g2 := F0 m 40 ls [.int (nI (kwF n p9 (k * (n 33 6 * 2 ^ p9)) (beM n p9 (k * (n 33 6 * 2 ^ p9)))))]) rfl ?_
          refine lv_aload_n X.1 X.2.1 jd_M_search_40 rfl (lv_at hl 4 rfl) ?_
          refine lv_iconst (v := nI 1) X.1 X.2.1 jd_M_search_41 (by decide) ?_
          refine lv_iload_n X.1 X.2.1 jd_M_search_42 rfl (lv_at hl 1 rfl) ?_
          refine lv_iload X.1 X.2.1 jd_M_search_43 (lv_at hl 0 rfl) ?_
          refine lv_aload_n X.1 X.2.1 jd_M_search_45 rfl (lv_at hl 4 rfl) ?_
          refine lv_iload X.1 X.2.1 jd_M_search_46 (lv_at hl 0 rfl) ?_
          refine lv_iload_n X.1 X.2.1 jd_M_search_48 rfl (lv_at hl 1 rfl) ?_
          refine j_run (j_mkV X hP (c_M_end l d D a n g p9 (k * (n 33 6 * 2 ^ p9)) (by omega) (by omega) hz2 ht2) jU_b (j_pp X hP) jm_765 jm_764 js_45 jm_6 jm_762 (by decide) rfl rfl (show jOk jy_M_end 2 by unfold jOk; decide +kernel) (by decide) ⟨rfl, rfl⟩ hl.1 rfl (Nat.le_of_ble_eq_true rfl) ⟨Nat.zero_le _, Nat.zero_le _⟩ jd_M_search_49) ?_
          refine W.eq (g2 := F0 m 52 ls [.int (nI (beM n p9 (k * (n 33 6 * 2 ^ p9)))), .int (nI (k * (n 33 6 * 2 ^ p9))), .int (nI p9), .int (nI 1), .ref (a 33), .int (nI (kwF n p9 (k * (n 33 6 * 2 ^ p9)) (beM n p9 (k * (n 33 6 * 2 ^ p9)))))]) rfl ?_
          refine j_run (j_mkV X hP (c_M_parityAt l d D a n g 1 p9 (k * (n 33 6 * 2 ^ p9)) (beM n p9 (k * (n 33 6 * 2 ^ p9))) (by decide) (by omega) (by omega) (by omega) (fun i hi => ho _ _ (by omega) (by omega))) jU_b (j_pp X hP) jm_789 jm_788 js_51 jm_6 jm_786 (by decide) rfl rfl (show jOk jy_M_parityAt 4 by unfold jOk; decide +kernel) (by decide) ⟨rfl, rfl⟩ hl.1 rfl (Nat.le_of_ble_eq_true rfl) ⟨Nat.zero_le _, Nat.zero_le _⟩ jd_M_search_52) ?_
          refine W.eq (g2 := F0 m 55 ls [.int (nI (parF (mS n 1) (mO n p9) (k * (n 33 6 * 2 ^ p9)) ((beM n p9 (k * (n 33 6 * 2 ^ p9))) - (k * (n 33 6 * 2 ^ p9))))), .int (nI (kwF n p9 (k * (n 33 6 * 2 ^ p9)) (beM n p9 (k * (n 33 6 * 2 ^ p9)))))]) rfl ?_
          refine kn_ceq X.1 X.2.1 jd_M_search_55 (tgt := 62) (by decide) (⟨kw_lt hB _ _ _, by have := parF_lt (ord := mO n p9) (f := (k * (n 33 6 * 2 ^ p9))) h01 ((beM n p9 (k * (n 33 6 * 2 ^ p9))) - (k * (n 33 6 * 2 ^ p9))); omega⟩) (fun h55 => ?_) (fun h55 => ?_)
          · skip
            refine lv_iconst (v := nI 0) X.1 X.2.1 jd_M_search_62 (by decide) ?_
            refine lv_istore X.1 X.2.1 jd_M_search_63 hl (by decide) rfl (fun ls hl => ?_)
            have hl : lv_has ls 8 [(5, .int (nI 0)), (4, .int (nI (k * (n 33 6 * 2 ^ p9)))), (3, .int (nI p9)), (1, .int (nI ((sbT n p9 (soT n p9) k).1))), (2, .int (nI ((sbT n p9 (soT n p9) k).2))), (0, .ref (a 33))] := hl
            refine lv_iload_n X.1 X.2.1 jd_M_search_65 rfl (lv_at hl 3 rfl) ?_
            refine lv_iconst (v := nI 4294967295) X.1 X.2.1 jd_M_search_66 (by decide) ?_
            refine kn_ceq X.1 X.2.1 jd_M_search_67 (tgt := 91) (by decide) (by omega) (fun h67 => ?_) (fun h67 => ?_)
            · skip
              refine lv_iconst (v := nI 1) X.1 X.2.1 jd_M_search_91 (by decide) ?_
              refine lv_goto X.1 X.2.1 jd_M_search_92 (tgt := 96) (by decide) ?_
              refine lv_istore X.1 X.2.1 jd_M_search_96 hl (by decide) rfl (fun ls hl => ?_)
              have hl : lv_has ls 8 [(6, .int (nI 1)), (5, .int (nI 0)), (4, .int (nI (k * (n 33 6 * 2 ^ p9)))), (3, .int (nI p9)), (1, .int (nI ((sbT n p9 (soT n p9) k).1))), (2, .int (nI ((sbT n p9 (soT n p9) k).2))), (0, .ref (a 33))] := hl
              refine lv_iload X.1 X.2.1 jd_M_search_98 (lv_at hl 1 rfl) ?_
              refine kn_eq0 X.1 X.2.1 jd_M_search_100 (tgt := 113) (by decide) (by omega) (fun h100 => ?_) (fun h100 => absurd h100 (by decide))
              refine lv_iload X.1 X.2.1 jd_M_search_113 (lv_at hl 2 rfl) ?_
              refine lv_aload_n X.1 X.2.1 jd_M_search_115 rfl (lv_at hl 6 rfl) ?_
              refine lv_iload_n X.1 X.2.1 jd_M_search_116 rfl (lv_at hl 3 rfl) ?_
              refine j_run (j_mkV X hP (c_M_blockSize l d D a n g p9 (by omega) hz2) jU_b (j_pp X hP) jm_769 jm_768 js_46 jm_6 jm_766 (by decide) rfl rfl (show jOk jy_M_blockSize 1 by unfold jOk; decide +kernel) (by decide) ⟨rfl, rfl⟩ hl.1 rfl (Nat.le_of_ble_eq_true rfl) ⟨Nat.zero_le _, Nat.zero_le _⟩ jd_M_search_117) ?_
              refine W.eq (g2 := F0 m 120 ls [.int (nI (n 33 6 * 2 ^ p9)), .int (nI (k * (n 33 6 * 2 ^ p9)))]) rfl ?_
              refine kn_iadd X.1 X.2.1 jd_M_search_120 ?_
              refine kn_to (y := (k + 1) * (n 33 6 * 2 ^ p9)) (by rw [Nat.add_mul, Nat.one_mul]) ?_
              refine lv_istore X.1 X.2.1 jd_M_search_121 hl (by decide) rfl (fun ls hl => ?_)
              have hl : lv_has ls 8 [(4, .int (nI ((k + 1) * (n 33 6 * 2 ^ p9)))), (6, .int (nI 1)), (5, .int (nI 0)), (3, .int (nI p9)), (1, .int (nI ((sbT n p9 (soT n p9) k).1))), (2, .int (nI ((sbT n p9 (soT n p9) k).2))), (0, .ref (a 33))] := hl
              refine lv_goto X.1 X.2.1 jd_M_search_123 (tgt := 17) (by decide) ?_
              have hl : lv_has ls 8 [(4, .int (nI ((k + 1) * (n 33 6 * 2 ^ p9)))), (3, .int (nI p9)), (1, .int (nI ((sbT n p9 (soT n p9) (k + 1)).1))), (2, .int (nI ((sbT n p9 (soT n p9) (k + 1)).2))), (0, .ref (a 33))] := by first | exact lv_sub hl [0, 3, 4, 5, 6] rfl | (simp only [sbT]; first | (rw [if_pos (by first | exact h55 | omega)]; rw [if_pos (by first | exact h67 | omega)]; rw [if_pos (by first | exact h88 | omega)]; exact lv_sub hl [0, 3, 4, 5, 6] rfl) | (rw [if_pos (by first | exact h55 | omega)]; rw [if_pos (by first | exact h67 | omega)]; rw [if_neg (by first | exact h88 | omega)]; exact lv_sub hl [0, 3, 4, 5, 6] rfl) | (rw [if_pos (by first | exact h55 | omega)]; rw [if_neg (by first | exact h67 | omega)]; rw [if_pos (by first | exact h88 | omega)]; exact lv_sub hl [0, 3, 4, 5, 6] rfl) | (rw [if_pos (by first | exact h55 | omega)]; rw [if_neg (by first | exact h67 | omega)]; rw [if_neg (by first | exact h88 | omega)]; exact lv_sub hl [0, 3, 4, 5, 6] rfl) | (rw [if_neg (by first | exact h55 | omega)]; rw [if_pos (by first | exact h67 | omega)]; rw [if_pos (by first | exact h88 | omega)]; exact lv_sub hl [0, 3, 4, 5, 6] rfl) | (rw [if_neg (by first | exact h55 | omega)]; rw [if_pos (by first | exact h67 | omega)]; rw [if_neg (by first | exact h88 | omega)]; exact lv_sub hl [0, 3, 4, 5, 6] rfl) | (rw [if_neg (by first | exact h55 | omega)]; rw [if_neg (by first | exact h67 | omega)]; rw [if_pos (by first | exact h88 | omega)]; exact lv_sub hl [0, 3, 4, 5, 6] rfl) | (rw [if_neg (by first | exact h55 | omega)]; rw [if_neg (by first | exact h67 | omega)]; rw [if_neg (by first | exact h88 | omega)]; exact lv_sub hl [0, 3, 4, 5, 6] rfl) | (rw [if_pos (by first | exact h55 | omega)]; rw [if_pos (by first | exact h67 | omega)]; exact lv_sub hl [0, 3, 4, 5, 6] rfl) | (rw [if_pos (by first | exact h55 | omega)]; rw [if_neg (by first | exact h67 | omega)]; exact lv_sub hl [0, 3, 4, 5, 6] rfl) | (rw [if_neg (by first | exact h55 | omega)]; rw [if_pos (by first | exact h67 | omega)]; exact lv_sub hl [0, 3, 4, 5, 6] rfl) | (rw [if_neg (by first | exact h55 | omega)]; rw [if_neg (by first | exact h67 | omega)]; exact lv_sub hl [0, 3, 4, 5, 6] rfl) | (rw [if_pos (by first | exact h55 | omega)]; exact lv_sub hl [0, 3, 4, 5, 6] rfl) | (rw [if_neg (by first | exact h55 | omega)]; exact lv_sub hl [0, 3, 4, 5, 6] rfl))
              exact ihrB (k + 1) ls (by omega) hl
            · skip
              have hb3 := beM_gt (n := n) (q := (sbT n p9 (soT n p9) k).2) (f := (sbT n p9 (soT n p9) k).1) hz (by omega)
              have hb4 := beM_le (n := n) (q := (sbT n p9 (soT n p9) k).2) (f := (sbT n p9 (soT n p9) k).1)
              refine lv_aload_n X.1 X.2.1 jd_M_search_70 rfl (lv_at hl 5 rfl) ?_
              refine lv_iload X.1 X.2.1 jd_M_search_71 (lv_at hl 1 rfl) ?_
              refine lv_iload_n X.1 X.2.1 jd_M_search_73 rfl (lv_at hl 2 rfl) ?_
              refine j_run (j_mkV X hP (c_M_end l d D a n g p9 (k * (n 33 6 * 2 ^ p9)) (by omega) (by omega) hz2 ht2) jU_b (j_pp X hP) jm_765 jm_764 js_45 jm_6 jm_762 (by decide) rfl rfl (show jOk jy_M_end 2 by unfold jOk; decide +kernel) (by decide) ⟨rfl, rfl⟩ hl.1 rfl (Nat.le_of_ble_eq_true rfl) ⟨Nat.zero_le _, Nat.zero_le _⟩ jd_M_search_74) ?_
              refine W.eq (g2 := F0 m 77 ls [.int (nI (beM n p9 (k * (n 33 6 * 2 ^ p9))))]) rfl ?_
              refine lv_iload X.1 X.2.1 jd_M_search_77 (lv_at hl 1 rfl) ?_
              refine kn_isub X.1 X.2.1 jd_M_search_79 (by omega) ?_
              refine lv_aload_n X.1 X.2.1 jd_M_search_80 rfl (lv_at hl 5 rfl) ?_
              refine lv_iload_n X.1 X.2.1 jd_M_search_81 rfl (lv_at hl 3 rfl) ?_
              refine lv_iload_n X.1 X.2.1 jd_M_search_82 rfl (lv_at hl 4 rfl) ?_
              refine j_run (j_mkV X hP (c_M_end l d D a n g (sbT n p9 (soT n p9) k).2 (sbT n p9 (soT n p9) k).1 (by omega) (by omega) hz2 ht2) jU_b (j_pp X hP) jm_765 jm_764 js_45 jm_6 jm_762 (by decide) rfl rfl (show jOk jy_M_end 2 by unfold jOk; decide +kernel) (by decide) ⟨rfl, rfl⟩ hl.1 rfl (Nat.le_of_ble_eq_true rfl) ⟨Nat.zero_le _, Nat.zero_le _⟩ jd_M_search_83) ?_
              refine W.eq (g2 := F0 m 86 ls [.int (nI (beM n (sbT n p9 (soT n p9) k).2 (sbT n p9 (soT n p9) k).1)), .int (nI ((beM n p9 (k * (n 33 6 * 2 ^ p9))) - (k * (n 33 6 * 2 ^ p9))))]) rfl ?_
              refine lv_iload_n X.1 X.2.1 jd_M_search_86 rfl (lv_at hl 3 rfl) ?_
              refine kn_isub X.1 X.2.1 jd_M_search_87 (by omega) ?_
              refine kn_cge X.1 X.2.1 jd_M_search_88 (tgt := 95) (by decide) (by omega) (fun h88 => ?_) (fun h88 => ?_)
              · skip
                refine lv_iconst (v := nI 0) X.1 X.2.1 jd_M_search_95 (by decide) ?_
                refine lv_istore X.1 X.2.1 jd_M_search_96 hl (by decide) rfl (fun ls hl => ?_)
                have hl : lv_has ls 8 [(6, .int (nI 0)), (5, .int (nI 0)), (4, .int (nI (k * (n 33 6 * 2 ^ p9)))), (3, .int (nI p9)), (1, .int (nI ((sbT n p9 (soT n p9) k).1))), (2, .int (nI ((sbT n p9 (soT n p9) k).2))), (0, .ref (a 33))] := hl
                refine lv_iload X.1 X.2.1 jd_M_search_98 (lv_at hl 1 rfl) ?_
                refine kn_eq0 X.1 X.2.1 jd_M_search_100 (tgt := 113) (by decide) (by omega) (fun h100 => ?_) (fun h100 => absurd h100 (by decide))
                refine lv_iload X.1 X.2.1 jd_M_search_113 (lv_at hl 2 rfl) ?_
                refine lv_aload_n X.1 X.2.1 jd_M_search_115 rfl (lv_at hl 6 rfl) ?_
                refine lv_iload_n X.1 X.2.1 jd_M_search_116 rfl (lv_at hl 3 rfl) ?_
                refine j_run (j_mkV X hP (c_M_blockSize l d D a n g p9 (by omega) hz2) jU_b (j_pp X hP) jm_769 jm_768 js_46 jm_6 jm_766 (by decide) rfl rfl (show jOk jy_M_blockSize 1 by unfold jOk; decide +kernel) (by decide) ⟨rfl, rfl⟩ hl.1 rfl (Nat.le_of_ble_eq_true rfl) ⟨Nat.zero_le _, Nat.zero_le _⟩ jd_M_search_117) ?_
                refine W.eq (g2 := F0 m 120 ls [.int (nI (n 33 6 * 2 ^ p9)), .int (nI (k * (n 33 6 * 2 ^ p9)))]) rfl ?_
                refine kn_iadd X.1 X.2.1 jd_M_search_120 ?_
                refine kn_to (y := (k + 1) * (n 33 6 * 2 ^ p9)) (by rw [Nat.add_mul, Nat.one_mul]) ?_
                refine lv_istore X.1 X.2.1 jd_M_search_121 hl (by decide) rfl (fun ls hl => ?_)
                have hl : lv_has ls 8 [(4, .int (nI ((k + 1) * (n 33 6 * 2 ^ p9)))), (6, .int (nI 0)), (5, .int (nI 0)), (3, .int (nI p9)), (1, .int (nI ((sbT n p9 (soT n p9) k).1))), (2, .int (nI ((sbT n p9 (soT n p9) k).2))), (0, .ref (a 33))] := hl
                refine lv_goto X.1 X.2.1 jd_M_search_123 (tgt := 17) (by decide) ?_
                have hl : lv_has ls 8 [(4, .int (nI ((k + 1) * (n 33 6 * 2 ^ p9)))), (3, .int (nI p9)), (1, .int (nI ((sbT n p9 (soT n p9) (k + 1)).1))), (2, .int (nI ((sbT n p9 (soT n p9) (k + 1)).2))), (0, .ref (a 33))] := by first | exact lv_sub hl [0, 3, 4, 5, 6] rfl | (simp only [sbT]; first | (rw [if_pos (by first | exact h55 | omega)]; rw [if_pos (by first | exact h67 | omega)]; rw [if_pos (by first | exact h88 | omega)]; exact lv_sub hl [0, 3, 4, 5, 6] rfl) | (rw [if_pos (by first | exact h55 | omega)]; rw [if_pos (by first | exact h67 | omega)]; rw [if_neg (by first | exact h88 | omega)]; exact lv_sub hl [0, 3, 4, 5, 6] rfl) | (rw [if_pos (by first | exact h55 | omega)]; rw [if_neg (by first | exact h67 | omega)]; rw [if_pos (by first | exact h88 | omega)]; exact lv_sub hl [0, 3, 4, 5, 6] rfl) | (rw [if_pos (by first | exact h55 | omega)]; rw [if_neg (by first | exact h67 | omega)]; rw [if_neg (by first | exact h88 | omega)]; exact lv_sub hl [0, 3, 4, 5, 6] rfl) | (rw [if_neg (by first | exact h55 | omega)]; rw [if_pos (by first | exact h67 | omega)]; rw [if_pos (by first | exact h88 | omega)]; exact lv_sub hl [0, 3, 4, 5, 6] rfl) | (rw [if_neg (by first | exact h55 | omega)]; rw [if_pos (by first | exact h67 | omega)]; rw [if_neg (by first | exact h88 | omega)]; exact lv_sub hl [0, 3, 4, 5, 6] rfl) | (rw [if_neg (by first | exact h55 | omega)]; rw [if_neg (by first | exact h67 | omega)]; rw [if_pos (by first | exact h88 | omega)]; exact lv_sub hl [0, 3, 4, 5, 6] rfl) | (rw [if_neg (by first | exact h55 | omega)]; rw [if_neg (by first | exact h67 | omega)]; rw [if_neg (by first | exact h88 | omega)]; exact lv_sub hl [0, 3, 4, 5, 6] rfl) | (rw [if_pos (by first | exact h55 | omega)]; rw [if_pos (by first | exact h67 | omega)]; exact lv_sub hl [0, 3, 4, 5, 6] rfl) | (rw [if_pos (by first | exact h55 | omega)]; rw [if_neg (by first | exact h67 | omega)]; exact lv_sub hl [0, 3, 4, 5, 6] rfl) | (rw [if_neg (by first | exact h55 | omega)]; rw [if_pos (by first | exact h67 | omega)]; exact lv_sub hl [0, 3, 4, 5, 6] rfl) | (rw [if_neg (by first | exact h55 | omega)]; rw [if_neg (by first | exact h67 | omega)]; exact lv_sub hl [0, 3, 4, 5, 6] rfl) | (rw [if_pos (by first | exact h55 | omega)]; exact lv_sub hl [0, 3, 4, 5, 6] rfl) | (rw [if_neg (by first | exact h55 | omega)]; exact lv_sub hl [0, 3, 4, 5, 6] rfl))
                exact ihrB (k + 1) ls (by omega) hl
              · skip
                refine lv_iconst (v := nI 1) X.1 X.2.1 jd_M_search_91 (by decide) ?_
                refine lv_goto X.1 X.2.1 jd_M_search_92 (tgt := 96) (by decide) ?_
                refine lv_istore X.1 X.2.1 jd_M_search_96 hl (by decide) rfl (fun ls hl => ?_)
                have hl : lv_has ls 8 [(6, .int (nI 1)), (5, .int (nI 0)), (4, .int (nI (k * (n 33 6 * 2 ^ p9)))), (3, .int (nI p9)), (1, .int (nI ((sbT n p9 (soT n p9) k).1))), (2, .int (nI ((sbT n p9 (soT n p9) k).2))), (0, .ref (a 33))] := hl
                refine lv_iload X.1 X.2.1 jd_M_search_98 (lv_at hl 1 rfl) ?_
                refine kn_eq0 X.1 X.2.1 jd_M_search_100 (tgt := 113) (by decide) (by omega) (fun h100 => ?_) (fun h100 => absurd h100 (by decide))
                refine lv_iload X.1 X.2.1 jd_M_search_113 (lv_at hl 2 rfl) ?_
                refine lv_aload_n X.1 X.2.1 jd_M_search_115 rfl (lv_at hl 6 rfl) ?_
                refine lv_iload_n X.1 X.2.1 jd_M_search_116 rfl (lv_at hl 3 rfl) ?_
                refine j_run (j_mkV X hP (c_M_blockSize l d D a n g p9 (by omega) hz2) jU_b (j_pp X hP) jm_769 jm_768 js_46 jm_6 jm_766 (by decide) rfl rfl (show jOk jy_M_blockSize 1 by unfold jOk; decide +kernel) (by decide) ⟨rfl, rfl⟩ hl.1 rfl (Nat.le_of_ble_eq_true rfl) ⟨Nat.zero_le _, Nat.zero_le _⟩ jd_M_search_117) ?_
                refine W.eq (g2 := F0 m 120 ls [.int (nI (n 33 6 * 2 ^ p9)), .int (nI (k * (n 33 6 * 2 ^ p9)))]) rfl ?_
                refine kn_iadd X.1 X.2.1 jd_M_search_120 ?_
                refine kn_to (y := (k + 1) * (n 33 6 * 2 ^ p9)) (by rw [Nat.add_mul, Nat.one_mul]) ?_
                refine lv_istore X.1 X.2.1 jd_M_search_121 hl (by decide) rfl (fun ls hl => ?_)
                have hl : lv_has ls 8 [(4, .int (nI ((k + 1) * (n 33 6 * 2 ^ p9)))), (6, .int (nI 1)), (5, .int (nI 0)), (3, .int (nI p9)), (1, .int (nI ((sbT n p9 (soT n p9) k).1))), (2, .int (nI ((sbT n p9 (soT n p9) k).2))), (0, .ref (a 33))] := hl
                refine lv_goto X.1 X.2.1 jd_M_search_123 (tgt := 17) (by decide) ?_
                have hl : lv_has ls 8 [(4, .int (nI ((k + 1) * (n 33 6 * 2 ^ p9)))), (3, .int (nI p9)), (1, .int (nI ((sbT n p9 (soT n p9) (k + 1)).1))), (2, .int (nI ((sbT n p9 (soT n p9) (k + 1)).2))), (0, .ref (a 33))] := by first | exact lv_sub hl [0, 3, 4, 5, 6] rfl | (simp only [sbT]; first | (rw [if_pos (by first | exact h55 | omega)]; rw [if_pos (by first | exact h67 | omega)]; rw [if_pos (by first | exact h88 | omega)]; exact lv_sub hl [0, 3, 4, 5, 6] rfl) | (rw [if_pos (by first | exact h55 | omega)]; rw [if_pos (by first | exact h67 | omega)]; rw [if_neg (by first | exact h88 | omega)]; exact lv_sub hl [0, 3, 4, 5, 6] rfl) | (rw [if_pos (by first | exact h55 | omega)]; rw [if_neg (by first | exact h67 | omega)]; rw [if_pos (by first | exact h88 | omega)]; exact lv_sub hl [0, 3, 4, 5, 6] rfl) | (rw [if_pos (by first | exact h55 | omega)]; rw [if_neg (by first | exact h67 | omega)]; rw [if_neg (by first | exact h88 | omega)]; exact lv_sub hl [0, 3, 4, 5, 6] rfl) | (rw [if_neg (by first | exact h55 | omega)]; rw [if_pos (by first | exact h67 | omega)]; rw [if_pos (by first | exact h88 | omega)]; exact lv_sub hl [0, 3, 4, 5, 6] rfl) | (rw [if_neg (by first | exact h55 | omega)]; rw [if_pos (by first | exact h67 | omega)]; rw [if_neg (by first | exact h88 | omega)]; exact lv_sub hl [0, 3, 4, 5, 6] rfl) | (rw [if_neg (by first | exact h55 | omega)]; rw [if_neg (by first | exact h67 | omega)]; rw [if_pos (by first | exact h88 | omega)]; exact lv_sub hl [0, 3, 4, 5, 6] rfl) | (rw [if_neg (by first | exact h55 | omega)]; rw [if_neg (by first | exact h67 | omega)]; rw [if_neg (by first | exact h88 | omega)]; exact lv_sub hl [0, 3, 4, 5, 6] rfl) | (rw [if_pos (by first | exact h55 | omega)]; rw [if_pos (by first | exact h67 | omega)]; exact lv_sub hl [0, 3, 4, 5, 6] rfl) | (rw [if_pos (by first | exact h55 | omega)]; rw [if_neg (by first | exact h67 | omega)]; exact lv_sub hl [0, 3, 4, 5, 6] rfl) | (rw [if_neg (by first | exact h55 | omega)]; rw [if_pos (by first | exact h67 | omega)]; exact lv_sub hl [0, 3, 4, 5, 6] rfl) | (rw [if_neg (by first | exact h55 | omega)]; rw [if_neg (by first | exact h67 | omega)]; exact lv_sub hl [0, 3, 4, 5, 6] rfl) | (rw [if_pos (by first | exact h55 | omega)]; exact lv_sub hl [0, 3, 4, 5, 6] rfl) | (rw [if_neg (by first | exact h55 | omega)]; exact lv_sub hl [0, 3, 4, 5, 6] rfl))
                exact ihrB (k + 1) ls (by omega) hl
          · skip
            refine lv_iconst (v := nI 1) X.1 X.2.1 jd_M_search_58 (by decide) ?_
            refine lv_goto X.1 X.2.1 jd_M_search_59 (tgt := 63) (by decide) ?_
            refine lv_istore X.1 X.2.1 jd_M_search_63 hl (by decide) rfl (fun ls hl => ?_)
            have hl : lv_has ls 8 [(5, .int (nI 1)), (4, .int (nI (k * (n 33 6 * 2 ^ p9)))), (3, .int (nI p9)), (1, .int (nI ((sbT n p9 (soT n p9) k).1))), (2, .int (nI ((sbT n p9 (soT n p9) k).2))), (0, .ref (a 33))] := hl
            refine lv_iload_n X.1 X.2.1 jd_M_search_65 rfl (lv_at hl 3 rfl) ?_
            refine lv_iconst (v := nI 4294967295) X.1 X.2.1 jd_M_search_66 (by decide) ?_
            refine kn_ceq X.1 X.2.1 jd_M_search_67 (tgt := 91) (by decide) (by omega) (fun h67 => ?_) (fun h67 => ?_)
            · skip
              refine lv_iconst (v := nI 1) X.1 X.2.1 jd_M_search_91 (by decide) ?_
              refine lv_goto X.1 X.2.1 jd_M_search_92 (tgt := 96) (by decide) ?_
              refine lv_istore X.1 X.2.1 jd_M_search_96 hl (by decide) rfl (fun ls hl => ?_)
              have hl : lv_has ls 8 [(6, .int (nI 1)), (5, .int (nI 1)), (4, .int (nI (k * (n 33 6 * 2 ^ p9)))), (3, .int (nI p9)), (1, .int (nI ((sbT n p9 (soT n p9) k).1))), (2, .int (nI ((sbT n p9 (soT n p9) k).2))), (0, .ref (a 33))] := hl
              refine lv_iload X.1 X.2.1 jd_M_search_98 (lv_at hl 1 rfl) ?_
              refine kn_eq0 X.1 X.2.1 jd_M_search_100 (tgt := 113) (by decide) (by omega) (fun h100 => absurd h100 (by decide)) (fun h100 => ?_)
              refine lv_iload X.1 X.2.1 jd_M_search_103 (lv_at hl 0 rfl) ?_
              refine kn_eq0 X.1 X.2.1 jd_M_search_105 (tgt := 113) (by decide) (by omega) (fun h105 => absurd h105 (by decide)) (fun h105 => ?_)
              refine lv_iload X.1 X.2.1 jd_M_search_108 (lv_at hl 2 rfl) ?_
              refine lv_istore_n X.1 X.2.1 jd_M_search_110 rfl hl (by decide) rfl (fun ls hl => ?_)
              have hl : lv_has ls 8 [(1, .int (nI (k * (n 33 6 * 2 ^ p9)))), (6, .int (nI 1)), (5, .int (nI 1)), (4, .int (nI (k * (n 33 6 * 2 ^ p9)))), (3, .int (nI p9)), (2, .int (nI ((sbT n p9 (soT n p9) k).2))), (0, .ref (a 33))] := hl
              refine lv_iload_n X.1 X.2.1 jd_M_search_111 rfl (lv_at hl 4 rfl) ?_
              refine lv_istore_n X.1 X.2.1 jd_M_search_112 rfl hl (by decide) rfl (fun ls hl => ?_)
              have hl : lv_has ls 8 [(2, .int (nI p9)), (1, .int (nI (k * (n 33 6 * 2 ^ p9)))), (6, .int (nI 1)), (5, .int (nI 1)), (4, .int (nI (k * (n 33 6 * 2 ^ p9)))), (3, .int (nI p9)), (0, .ref (a 33))] := hl
              refine lv_iload X.1 X.2.1 jd_M_search_113 (lv_at hl 4 rfl) ?_
              refine lv_aload_n X.1 X.2.1 jd_M_search_115 rfl (lv_at hl 6 rfl) ?_
              refine lv_iload_n X.1 X.2.1 jd_M_search_116 rfl (lv_at hl 5 rfl) ?_
              refine j_run (j_mkV X hP (c_M_blockSize l d D a n g p9 (by omega) hz2) jU_b (j_pp X hP) jm_769 jm_768 js_46 jm_6 jm_766 (by decide) rfl rfl (show jOk jy_M_blockSize 1 by unfold jOk; decide +kernel) (by decide) ⟨rfl, rfl⟩ hl.1 rfl (Nat.le_of_ble_eq_true rfl) ⟨Nat.zero_le _, Nat.zero_le _⟩ jd_M_search_117) ?_
              refine W.eq (g2 := F0 m 120 ls [.int (nI (n 33 6 * 2 ^ p9)), .int (nI (k * (n 33 6 * 2 ^ p9)))]) rfl ?_
              refine kn_iadd X.1 X.2.1 jd_M_search_120 ?_
              refine kn_to (y := (k + 1) * (n 33 6 * 2 ^ p9)) (by rw [Nat.add_mul, Nat.one_mul]) ?_
              refine lv_istore X.1 X.2.1 jd_M_search_121 hl (by decide) rfl (fun ls hl => ?_)
              have hl : lv_has ls 8 [(4, .int (nI ((k + 1) * (n 33 6 * 2 ^ p9)))), (2, .int (nI p9)), (1, .int (nI (k * (n 33 6 * 2 ^ p9)))), (6, .int (nI 1)), (5, .int (nI 1)), (3, .int (nI p9)), (0, .ref (a 33))] := hl
              refine lv_goto X.1 X.2.1 jd_M_search_123 (tgt := 17) (by decide) ?_
              have hl : lv_has ls 8 [(4, .int (nI ((k + 1) * (n 33 6 * 2 ^ p9)))), (3, .int (nI p9)), (1, .int (nI ((sbT n p9 (soT n p9) (k + 1)).1))), (2, .int (nI ((sbT n p9 (soT n p9) (k + 1)).2))), (0, .ref (a 33))] := by first | exact lv_sub hl [0, 5, 2, 1, 6] rfl | (simp only [sbT]; first | (rw [if_pos (by first | exact h55 | omega)]; rw [if_pos (by first | exact h67 | omega)]; rw [if_pos (by first | exact h88 | omega)]; exact lv_sub hl [0, 5, 2, 1, 6] rfl) | (rw [if_pos (by first | exact h55 | omega)]; rw [if_pos (by first | exact h67 | omega)]; rw [if_neg (by first | exact h88 | omega)]; exact lv_sub hl [0, 5, 2, 1, 6] rfl) | (rw [if_pos (by first | exact h55 | omega)]; rw [if_neg (by first | exact h67 | omega)]; rw [if_pos (by first | exact h88 | omega)]; exact lv_sub hl [0, 5, 2, 1, 6] rfl) | (rw [if_pos (by first | exact h55 | omega)]; rw [if_neg (by first | exact h67 | omega)]; rw [if_neg (by first | exact h88 | omega)]; exact lv_sub hl [0, 5, 2, 1, 6] rfl) | (rw [if_neg (by first | exact h55 | omega)]; rw [if_pos (by first | exact h67 | omega)]; rw [if_pos (by first | exact h88 | omega)]; exact lv_sub hl [0, 5, 2, 1, 6] rfl) | (rw [if_neg (by first | exact h55 | omega)]; rw [if_pos (by first | exact h67 | omega)]; rw [if_neg (by first | exact h88 | omega)]; exact lv_sub hl [0, 5, 2, 1, 6] rfl) | (rw [if_neg (by first | exact h55 | omega)]; rw [if_neg (by first | exact h67 | omega)]; rw [if_pos (by first | exact h88 | omega)]; exact lv_sub hl [0, 5, 2, 1, 6] rfl) | (rw [if_neg (by first | exact h55 | omega)]; rw [if_neg (by first | exact h67 | omega)]; rw [if_neg (by first | exact h88 | omega)]; exact lv_sub hl [0, 5, 2, 1, 6] rfl) | (rw [if_pos (by first | exact h55 | omega)]; rw [if_pos (by first | exact h67 | omega)]; exact lv_sub hl [0, 5, 2, 1, 6] rfl) | (rw [if_pos (by first | exact h55 | omega)]; rw [if_neg (by first | exact h67 | omega)]; exact lv_sub hl [0, 5, 2, 1, 6] rfl) | (rw [if_neg (by first | exact h55 | omega)]; rw [if_pos (by first | exact h67 | omega)]; exact lv_sub hl [0, 5, 2, 1, 6] rfl) | (rw [if_neg (by first | exact h55 | omega)]; rw [if_neg (by first | exact h67 | omega)]; exact lv_sub hl [0, 5, 2, 1, 6] rfl) | (rw [if_pos (by first | exact h55 | omega)]; exact lv_sub hl [0, 5, 2, 1, 6] rfl) | (rw [if_neg (by first | exact h55 | omega)]; exact lv_sub hl [0, 5, 2, 1, 6] rfl))
              exact ihrB (k + 1) ls (by omega) hl
            · skip
              have hb3 := beM_gt (n := n) (q := (sbT n p9 (soT n p9) k).2) (f := (sbT n p9 (soT n p9) k).1) hz (by omega)
              have hb4 := beM_le (n := n) (q := (sbT n p9 (soT n p9) k).2) (f := (sbT n p9 (soT n p9) k).1)
              refine lv_aload_n X.1 X.2.1 jd_M_search_70 rfl (lv_at hl 5 rfl) ?_
              refine lv_iload X.1 X.2.1 jd_M_search_71 (lv_at hl 1 rfl) ?_
              refine lv_iload_n X.1 X.2.1 jd_M_search_73 rfl (lv_at hl 2 rfl) ?_
              refine j_run (j_mkV X hP (c_M_end l d D a n g p9 (k * (n 33 6 * 2 ^ p9)) (by omega) (by omega) hz2 ht2) jU_b (j_pp X hP) jm_765 jm_764 js_45 jm_6 jm_762 (by decide) rfl rfl (show jOk jy_M_end 2 by unfold jOk; decide +kernel) (by decide) ⟨rfl, rfl⟩ hl.1 rfl (Nat.le_of_ble_eq_true rfl) ⟨Nat.zero_le _, Nat.zero_le _⟩ jd_M_search_74) ?_
              refine W.eq (g2 := F0 m 77 ls [.int (nI (beM n p9 (k * (n 33 6 * 2 ^ p9))))]) rfl ?_
              refine lv_iload X.1 X.2.1 jd_M_search_77 (lv_at hl 1 rfl) ?_
              refine kn_isub X.1 X.2.1 jd_M_search_79 (by omega) ?_
              refine lv_aload_n X.1 X.2.1 jd_M_search_80 rfl (lv_at hl 5 rfl) ?_
              refine lv_iload_n X.1 X.2.1 jd_M_search_81 rfl (lv_at hl 3 rfl) ?_
              refine lv_iload_n X.1 X.2.1 jd_M_search_82 rfl (lv_at hl 4 rfl) ?_
              refine j_run (j_mkV X hP (c_M_end l d D a n g (sbT n p9 (soT n p9) k).2 (sbT n p9 (soT n p9) k).1 (by omega) (by omega) hz2 ht2) jU_b (j_pp X hP) jm_765 jm_764 js_45 jm_6 jm_762 (by decide) rfl rfl (show jOk jy_M_end 2 by unfold jOk; decide +kernel) (by decide) ⟨rfl, rfl⟩ hl.1 rfl (Nat.le_of_ble_eq_true rfl) ⟨Nat.zero_le _, Nat.zero_le _⟩ jd_M_search_83) ?_
              refine W.eq (g2 := F0 m 86 ls [.int (nI (beM n (sbT n p9 (soT n p9) k).2 (sbT n p9 (soT n p9) k).1)), .int (nI ((beM n p9 (k * (n 33 6 * 2 ^ p9))) - (k * (n 33 6 * 2 ^ p9))))]) rfl ?_
              refine lv_iload_n X.1 X.2.1 jd_M_search_86 rfl (lv_at hl 3 rfl) ?_
              refine kn_isub X.1 X.2.1 jd_M_search_87 (by omega) ?_
              refine kn_cge X.1 X.2.1 jd_M_search_88 (tgt := 95) (by decide) (by omega) (fun h88 => ?_) (fun h88 => ?_)
              · skip
                refine lv_iconst (v := nI 0) X.1 X.2.1 jd_M_search_95 (by decide) ?_
                refine lv_istore X.1 X.2.1 jd_M_search_96 hl (by decide) rfl (fun ls hl => ?_)
                have hl : lv_has ls 8 [(6, .int (nI 0)), (5, .int (nI 1)), (4, .int (nI (k * (n 33 6 * 2 ^ p9)))), (3, .int (nI p9)), (1, .int (nI ((sbT n p9 (soT n p9) k).1))), (2, .int (nI ((sbT n p9 (soT n p9) k).2))), (0, .ref (a 33))] := hl
                refine lv_iload X.1 X.2.1 jd_M_search_98 (lv_at hl 1 rfl) ?_
                refine kn_eq0 X.1 X.2.1 jd_M_search_100 (tgt := 113) (by decide) (by omega) (fun h100 => absurd h100 (by decide)) (fun h100 => ?_)
                refine lv_iload X.1 X.2.1 jd_M_search_103 (lv_at hl 0 rfl) ?_
                refine kn_eq0 X.1 X.2.1 jd_M_search_105 (tgt := 113) (by decide) (by omega) (fun h105 => ?_) (fun h105 => absurd h105 (by decide))
                refine lv_iload X.1 X.2.1 jd_M_search_113 (lv_at hl 2 rfl) ?_
                refine lv_aload_n X.1 X.2.1 jd_M_search_115 rfl (lv_at hl 6 rfl) ?_
                refine lv_iload_n X.1 X.2.1 jd_M_search_116 rfl (lv_at hl 3 rfl) ?_
                refine j_run (j_mkV X hP (c_M_blockSize l d D a n g p9 (by omega) hz2) jU_b (j_pp X hP) jm_769 jm_768 js_46 jm_6 jm_766 (by decide) rfl rfl (show jOk jy_M_blockSize 1 by unfold jOk; decide +kernel) (by decide) ⟨rfl, rfl⟩ hl.1 rfl (Nat.le_of_ble_eq_true rfl) ⟨Nat.zero_le _, Nat.zero_le _⟩ jd_M_search_117) ?_
                refine W.eq (g2 := F0 m 120 ls [.int (nI (n 33 6 * 2 ^ p9)), .int (nI (k * (n 33 6 * 2 ^ p9)))]) rfl ?_
                refine kn_iadd X.1 X.2.1 jd_M_search_120 ?_
                refine kn_to (y := (k + 1) * (n 33 6 * 2 ^ p9)) (by rw [Nat.add_mul, Nat.one_mul]) ?_
                refine lv_istore X.1 X.2.1 jd_M_search_121 hl (by decide) rfl (fun ls hl => ?_)
                have hl : lv_has ls 8 [(4, .int (nI ((k + 1) * (n 33 6 * 2 ^ p9)))), (6, .int (nI 0)), (5, .int (nI 1)), (3, .int (nI p9)), (1, .int (nI ((sbT n p9 (soT n p9) k).1))), (2, .int (nI ((sbT n p9 (soT n p9) k).2))), (0, .ref (a 33))] := hl
                refine lv_goto X.1 X.2.1 jd_M_search_123 (tgt := 17) (by decide) ?_
                have hl : lv_has ls 8 [(4, .int (nI ((k + 1) * (n 33 6 * 2 ^ p9)))), (3, .int (nI p9)), (1, .int (nI ((sbT n p9 (soT n p9) (k + 1)).1))), (2, .int (nI ((sbT n p9 (soT n p9) (k + 1)).2))), (0, .ref (a 33))] := by first | exact lv_sub hl [0, 3, 4, 5, 6] rfl | (simp only [sbT]; first | (rw [if_pos (by first | exact h55 | omega)]; rw [if_pos (by first | exact h67 | omega)]; rw [if_pos (by first | exact h88 | omega)]; exact lv_sub hl [0, 3, 4, 5, 6] rfl) | (rw [if_pos (by first | exact h55 | omega)]; rw [if_pos (by first | exact h67 | omega)]; rw [if_neg (by first | exact h88 | omega)]; exact lv_sub hl [0, 3, 4, 5, 6] rfl) | (rw [if_pos (by first | exact h55 | omega)]; rw [if_neg (by first | exact h67 | omega)]; rw [if_pos (by first | exact h88 | omega)]; exact lv_sub hl [0, 3, 4, 5, 6] rfl) | (rw [if_pos (by first | exact h55 | omega)]; rw [if_neg (by first | exact h67 | omega)]; rw [if_neg (by first | exact h88 | omega)]; exact lv_sub hl [0, 3, 4, 5, 6] rfl) | (rw [if_neg (by first | exact h55 | omega)]; rw [if_pos (by first | exact h67 | omega)]; rw [if_pos (by first | exact h88 | omega)]; exact lv_sub hl [0, 3, 4, 5, 6] rfl) | (rw [if_neg (by first | exact h55 | omega)]; rw [if_pos (by first | exact h67 | omega)]; rw [if_neg (by first | exact h88 | omega)]; exact lv_sub hl [0, 3, 4, 5, 6] rfl) | (rw [if_neg (by first | exact h55 | omega)]; rw [if_neg (by first | exact h67 | omega)]; rw [if_pos (by first | exact h88 | omega)]; exact lv_sub hl [0, 3, 4, 5, 6] rfl) | (rw [if_neg (by first | exact h55 | omega)]; rw [if_neg (by first | exact h67 | omega)]; rw [if_neg (by first | exact h88 | omega)]; exact lv_sub hl [0, 3, 4, 5, 6] rfl) | (rw [if_pos (by first | exact h55 | omega)]; rw [if_pos (by first | exact h67 | omega)]; exact lv_sub hl [0, 3, 4, 5, 6] rfl) | (rw [if_pos (by first | exact h55 | omega)]; rw [if_neg (by first | exact h67 | omega)]; exact lv_sub hl [0, 3, 4, 5, 6] rfl) | (rw [if_neg (by first | exact h55 | omega)]; rw [if_pos (by first | exact h67 | omega)]; exact lv_sub hl [0, 3, 4, 5, 6] rfl) | (rw [if_neg (by first | exact h55 | omega)]; rw [if_neg (by first | exact h67 | omega)]; exact lv_sub hl [0, 3, 4, 5, 6] rfl) | (rw [if_pos (by first | exact h55 | omega)]; exact lv_sub hl [0, 3, 4, 5, 6] rfl) | (rw [if_neg (by first | exact h55 | omega)]; exact lv_sub hl [0, 3, 4, 5, 6] rfl))
                exact ihrB (k + 1) ls (by omega) hl
              · skip
                refine lv_iconst (v := nI 1) X.1 X.2.1 jd_M_search_91 (by decide) ?_
                refine lv_goto X.1 X.2.1 jd_M_search_92 (tgt := 96) (by decide) ?_
                refine lv_istore X.1 X.2.1 jd_M_search_96 hl (by decide) rfl (fun ls hl => ?_)
                have hl : lv_has ls 8 [(6, .int (nI 1)), (5, .int (nI 1)), (4, .int (nI (k * (n 33 6 * 2 ^ p9)))), (3, .int (nI p9)), (1, .int (nI ((sbT n p9 (soT n p9) k).1))), (2, .int (nI ((sbT n p9 (soT n p9) k).2))), (0, .ref (a 33))] := hl
                refine lv_iload X.1 X.2.1 jd_M_search_98 (lv_at hl 1 rfl) ?_
                refine kn_eq0 X.1 X.2.1 jd_M_search_100 (tgt := 113) (by decide) (by omega) (fun h100 => absurd h100 (by decide)) (fun h100 => ?_)
                refine lv_iload X.1 X.2.1 jd_M_search_103 (lv_at hl 0 rfl) ?_
                refine kn_eq0 X.1 X.2.1 jd_M_search_105 (tgt := 113) (by decide) (by omega) (fun h105 => absurd h105 (by decide)) (fun h105 => ?_)
                refine lv_iload X.1 X.2.1 jd_M_search_108 (lv_at hl 2 rfl) ?_
                refine lv_istore_n X.1 X.2.1 jd_M_search_110 rfl hl (by decide) rfl (fun ls hl => ?_)
                have hl : lv_has ls 8 [(1, .int (nI (k * (n 33 6 * 2 ^ p9)))), (6, .int (nI 1)), (5, .int (nI 1)), (4, .int (nI (k * (n 33 6 * 2 ^ p9)))), (3, .int (nI p9)), (2, .int (nI ((sbT n p9 (soT n p9) k).2))), (0, .ref (a 33))] := hl
                refine lv_iload_n X.1 X.2.1 jd_M_search_111 rfl (lv_at hl 4 rfl) ?_
                refine lv_istore_n X.1 X.2.1 jd_M_search_112 rfl hl (by decide) rfl (fun ls hl => ?_)
                have hl : lv_has ls 8 [(2, .int (nI p9)), (1, .int (nI (k * (n 33 6 * 2 ^ p9)))), (6, .int (nI 1)), (5, .int (nI 1)), (4, .int (nI (k * (n 33 6 * 2 ^ p9)))), (3, .int (nI p9)), (0, .ref (a 33))] := hl
                refine lv_iload X.1 X.2.1 jd_M_search_113 (lv_at hl 4 rfl) ?_
                refine lv_aload_n X.1 X.2.1 jd_M_search_115 rfl (lv_at hl 6 rfl) ?_
                refine lv_iload_n X.1 X.2.1 jd_M_search_116 rfl (lv_at hl 5 rfl) ?_
                refine j_run (j_mkV X hP (c_M_blockSize l d D a n g p9 (by omega) hz2) jU_b (j_pp X hP) jm_769 jm_768 js_46 jm_6 jm_766 (by decide) rfl rfl (show jOk jy_M_blockSize 1 by unfold jOk; decide +kernel) (by decide) ⟨rfl, rfl⟩ hl.1 rfl (Nat.le_of_ble_eq_true rfl) ⟨Nat.zero_le _, Nat.zero_le _⟩ jd_M_search_117) ?_
                refine W.eq (g2 := F0 m 120 ls [.int (nI (n 33 6 * 2 ^ p9)), .int (nI (k * (n 33 6 * 2 ^ p9)))]) rfl ?_
                refine kn_iadd X.1 X.2.1 jd_M_search_120 ?_
                refine kn_to (y := (k + 1) * (n 33 6 * 2 ^ p9)) (by rw [Nat.add_mul, Nat.one_mul]) ?_
                refine lv_istore X.1 X.2.1 jd_M_search_121 hl (by decide) rfl (fun ls hl => ?_)
                have hl : lv_has ls 8 [(4, .int (nI ((k + 1) * (n 33 6 * 2 ^ p9)))), (2, .int (nI p9)), (1, .int (nI (k * (n 33 6 * 2 ^ p9)))), (6, .int (nI 1)), (5, .int (nI 1)), (3, .int (nI p9)), (0, .ref (a 33))] := hl
                refine lv_goto X.1 X.2.1 jd_M_search_123 (tgt := 17) (by decide) ?_
                have hl : lv_has ls 8 [(4, .int (nI ((k + 1) * (n 33 6 * 2 ^ p9)))), (3, .int (nI p9)), (1, .int (nI ((sbT n p9 (soT n p9) (k + 1)).1))), (2, .int (nI ((sbT n p9 (soT n p9) (k + 1)).2))), (0, .ref (a 33))] := by first | exact lv_sub hl [0, 5, 2, 1, 6] rfl | (simp only [sbT]; first | (rw [if_pos (by first | exact h55 | omega)]; rw [if_pos (by first | exact h67 | omega)]; rw [if_pos (by first | exact h88 | omega)]; exact lv_sub hl [0, 5, 2, 1, 6] rfl) | (rw [if_pos (by first | exact h55 | omega)]; rw [if_pos (by first | exact h67 | omega)]; rw [if_neg (by first | exact h88 | omega)]; exact lv_sub hl [0, 5, 2, 1, 6] rfl) | (rw [if_pos (by first | exact h55 | omega)]; rw [if_neg (by first | exact h67 | omega)]; rw [if_pos (by first | exact h88 | omega)]; exact lv_sub hl [0, 5, 2, 1, 6] rfl) | (rw [if_pos (by first | exact h55 | omega)]; rw [if_neg (by first | exact h67 | omega)]; rw [if_neg (by first | exact h88 | omega)]; exact lv_sub hl [0, 5, 2, 1, 6] rfl) | (rw [if_neg (by first | exact h55 | omega)]; rw [if_pos (by first | exact h67 | omega)]; rw [if_pos (by first | exact h88 | omega)]; exact lv_sub hl [0, 5, 2, 1, 6] rfl) | (rw [if_neg (by first | exact h55 | omega)]; rw [if_pos (by first | exact h67 | omega)]; rw [if_neg (by first | exact h88 | omega)]; exact lv_sub hl [0, 5, 2, 1, 6] rfl) | (rw [if_neg (by first | exact h55 | omega)]; rw [if_neg (by first | exact h67 | omega)]; rw [if_pos (by first | exact h88 | omega)]; exact lv_sub hl [0, 5, 2, 1, 6] rfl) | (rw [if_neg (by first | exact h55 | omega)]; rw [if_neg (by first | exact h67 | omega)]; rw [if_neg (by first | exact h88 | omega)]; exact lv_sub hl [0, 5, 2, 1, 6] rfl) | (rw [if_pos (by first | exact h55 | omega)]; rw [if_pos (by first | exact h67 | omega)]; exact lv_sub hl [0, 5, 2, 1, 6] rfl) | (rw [if_pos (by first | exact h55 | omega)]; rw [if_neg (by first | exact h67 | omega)]; exact lv_sub hl [0, 5, 2, 1, 6] rfl) | (rw [if_neg (by first | exact h55 | omega)]; rw [if_pos (by first | exact h67 | omega)]; exact lv_sub hl [0, 5, 2, 1, 6] rfl) | (rw [if_neg (by first | exact h55 | omega)]; rw [if_neg (by first | exact h67 | omega)]; exact lv_sub hl [0, 5, 2, 1, 6] rfl) | (rw [if_pos (by first | exact h55 | omega)]; exact lv_sub hl [0, 5, 2, 1, 6] rfl) | (rw [if_neg (by first | exact h55 | omega)]; exact lv_sub hl [0, 5, 2, 1, 6] rfl))
                exact ihrB (k + 1) ls (by omega) hl
      have hl : lv_has ls 8 [(4, .int (nI (0 * (n 33 6 * 2 ^ p9)))), (3, .int (nI p9)), (1, .int (nI (soT n p9).1)), (2, .int (nI (soT n p9).2)), (0, .ref (a 33))] := by rw [Nat.zero_mul]; exact hl
      have hl : lv_has ls 8 [(4, .int (nI (0 * (n 33 6 * 2 ^ p9)))), (3, .int (nI p9)), (1, .int (nI ((sbT n p9 (soT n p9) 0).1))), (2, .int (nI ((sbT n p9 (soT n p9) 0).2))), (0, .ref (a 33))] := lv_sub hl [0, 1, 2, 3, 4] rfl
      exact loopB (bcM n p9) 0 ls (by omega) hl
  have hl : lv_has ls 8 [(3, .int (nI 0)), (1, .int (nI ((soT n 0).1))), (2, .int (nI ((soT n 0).2))), (0, .ref (a 33))] := lv_sub hl [0, 2, 1, 3] rfl
  exact loop6 (n 33 7 + 1) 0 ls (by omega) hl

set_option maxHeartbeats 4000000 in
theorem c_M_goOn (l : Launch) (d : Nat → Nat) (D : va_G) (a : Nat → Nat) (n : Nat → Nat → Nat) (g : Nat → Nat) (hap : ∀ i j : Nat, i < 52 → j < 52 → a i = a j → i = j) (hM : MI n) (hst : ¬ (goT n 256).2 = 0 ∨ (goT n 256).1 33 7 = 4) : jEff l d D a n g jy_M_goOn jb_M_goOn 3 none { frames := 3, cells := 0, slots := 0, locals := 73 } [.ref (a 33)] (fun v9 n2 g2 => none = v9 ∧ (goT n 256).1 = n2 ∧ g = g2) := by
  refine je_V (by decide) (Nat.le_of_ble_eq_true rfl) ?_
  intro p e s m A below meth c ls Q X hP hS hl hQ
  have hl : lv_has ls 3 [(0, .ref (a 33))] := hl
  refine lv_iconst (v := nI 1) X.1 X.2.1 jd_M_goOn_0 (by decide) ?_
  refine lv_istore_n X.1 X.2.1 jd_M_goOn_1 rfl hl (by decide) rfl (fun ls hl => ?_)
  have hl : lv_has ls 3 [(1, .int (nI 1)), (0, .ref (a 33))] := hl
  have big : ∀ (r k : Nat), k + r = 256 → (goT n k).2 = 0 → (∀ (H : Heap) (locs : List Loc) (ls : Array Slot), (afM (goT n k).1 ((goT n k).1 33 7)).2 = 0 → ¬ (goT n k).1 33 7 = 4 → va_P D jCl (jW d a (goT n k).1 g) H → va_S (jAa a s.heap.size) s.heap H locs → lv_has ls 3 [(2, .int (nI 1)), (1, .int (nI 1)), (0, .ref (a 33))] → W p l e { frames := 3, cells := 0, slots := 0, locals := 73 } s m A below meth c H locs 0 0 Q (F0 m 24 ls [])) ∧ (∀ (H : Heap) (locs : List Loc) (ls : Array Slot), va_P D jCl (jW d a (goT n k).1 g) H → va_S (jAa a s.heap.size) s.heap H locs → lv_has ls 3 [(1, .int (nI 1)), (0, .ref (a 33))] → W p l e { frames := 3, cells := 0, slots := 0, locals := 73 } s m A below meth c H locs 0 0 Q (F0 m 2 ls [])) := by
    intro r
    induction r with
    | zero => 
      intro k hk h0
      obtain rfl : 256 = k := by omega
      have h4 : (goT n 256).1 33 7 = 4 := by rcases hst with q | q; exact absurd h0 q; exact q
      refine ⟨fun H locs ls _ h _ _ _ => absurd h4 h, ?_⟩
      intro H locs ls hP hS hl
      have hMk := MI_go hM 256 h0
      refine lv_iload_n X.1 X.2.1 jd_M_goOn_2 rfl (lv_at hl 0 rfl) ?_
      refine kn_eq0 X.1 X.2.1 jd_M_goOn_3 (tgt := 71) (by decide) (by omega) (fun h3 => absurd h3 (by decide)) (fun h3 => ?_)
      refine lv_aload_n X.1 X.2.1 jd_M_goOn_6 rfl (lv_at hl 1 rfl) ?_
      refine jg_M_32_33 X hP jd_M_goOn_7 ?_
      refine lv_iconst (v := nI 4) X.1 X.2.1 jd_M_goOn_10 (by decide) ?_
      refine kn_ceq X.1 X.2.1 jd_M_goOn_11 (tgt := 21) (by decide) (⟨hMk.2.1 _ _, by decide⟩) (fun h11 => ?_) (fun h11 => absurd h11 (fun q => q h4))
      exact hQ _ _ _ _ _ _ (⟨rfl, rfl, rfl⟩) hP hS jd_M_goOn_21
    | succ r ih => 
      intro k hk h0
      have hMk := MI_go hM k h0
      have hI : (∀ (H : Heap) (locs : List Loc) (ls : Array Slot), (afM (goT n k).1 ((goT n k).1 33 7)).2 = 0 → ¬ (goT n k).1 33 7 = 4 → va_P D jCl (jW d a (goT n k).1 g) H → va_S (jAa a s.heap.size) s.heap H locs → lv_has ls 3 [(2, .int (nI 1)), (1, .int (nI 1)), (0, .ref (a 33))] → W p l e { frames := 3, cells := 0, slots := 0, locals := 73 } s m A below meth c H locs 0 0 Q (F0 m 24 ls [])) := by
        intro H locs ls hA h4 hP hS hl
        have h47 : (goT n k).1 33 7 < 4 := by have := hMk.2.2.2.2.2.2.1; omega
        refine lv_iload_n X.1 X.2.1 jd_M_goOn_24 rfl (lv_at hl 0 rfl) ?_
        refine lv_iconst (v := nI 1) X.1 X.2.1 jd_M_goOn_25 (by decide) ?_
        refine kn_cne X.1 X.2.1 jd_M_goOn_26 (tgt := 37) (by decide) (by omega) (fun h26 => absurd h26 (by omega)) (fun h26 => ?_)
        refine lv_aload_n X.1 X.2.1 jd_M_goOn_29 rfl (lv_at hl 2 rfl) ?_
        refine j_rune (j_mkV X hP (c_M_search l d D a (goT n k).1 g hap hMk (by omega) _) jU_bs (j_pe X hP) jm_785 jm_784 js_50 jm_6 jm_782 (by decide) rfl rfl (show jOk jy_M_search 0 by unfold jOk; decide +kernel) (by decide) ⟨rfl, rfl⟩ hl.1 rfl (Nat.le_of_ble_eq_true rfl) ⟨Nat.zero_le _, Nat.zero_le _⟩ jd_M_goOn_30) hS (fun v30 n30 g30 H locs h30 hP hS => ?_)
        obtain ⟨rfl, rfl, rfl⟩ := h30
        refine W.eq (g2 := F0 m 33 ls [.int (nI ((srM (goT n k).1).2))]) rfl ?_
        refine lv_istore_n X.1 X.2.1 jd_M_goOn_33 rfl hl (by decide) rfl (fun ls hl => ?_)
        have hl : lv_has ls 3 [(2, .int (nI ((srM (goT n k).1).2))), (1, .int (nI 1)), (0, .ref (a 33))] := hl
        refine lv_goto X.1 X.2.1 jd_M_goOn_34 (tgt := 24) (by decide) ?_
        have h3 := srM_three (goT n k).1
        have eG := goT_m h0 h4 hA
        rcases (show (srM (goT n k).1).2 = 0 ∨ (srM (goT n k).1).2 = 1 ∨ (srM (goT n k).1).2 = 2 by omega) with e9 | e9 | e9
        · rw [mmM_0 e9] at eG
          have hl : lv_has ls 3 [(2, .int (nI 0)), (1, .int (nI 1)), (0, .ref (a 33))] := by rw [e9] at hl; exact lv_sub hl [0, 1, 2] rfl
          rw [srM_n0 e9] at hP
          refine lv_iload_n X.1 X.2.1 jd_M_goOn_24 rfl (lv_at hl 0 rfl) ?_
          refine lv_iconst (v := nI 1) X.1 X.2.1 jd_M_goOn_25 (by decide) ?_
          refine kn_cne X.1 X.2.1 jd_M_goOn_26 (tgt := 37) (by decide) (by omega) (fun h26 => ?_) (fun h26 => absurd h26 (by omega))
          refine lv_iload_n X.1 X.2.1 jd_M_goOn_37 rfl (lv_at hl 0 rfl) ?_
          refine kn_ne0 X.1 X.2.1 jd_M_goOn_38 (tgt := 45) (by decide) (by omega) (fun h38 => absurd h38 (by omega)) (fun h38 => ?_)
          refine lv_iconst (v := nI 1) X.1 X.2.1 jd_M_goOn_41 (by decide) ?_
          refine lv_goto X.1 X.2.1 jd_M_goOn_42 (tgt := 46) (by decide) ?_
          refine lv_istore_n X.1 X.2.1 jd_M_goOn_46 rfl hl (by decide) rfl (fun ls hl => ?_)
          have hl : lv_has ls 3 [(1, .int (nI 1)), (2, .int (nI 0)), (0, .ref (a 33))] := hl
          refine lv_aload_n X.1 X.2.1 jd_M_goOn_47 rfl (lv_at hl 2 rfl) ?_
          refine lv_iload_n X.1 X.2.1 jd_M_goOn_48 rfl (lv_at hl 1 rfl) ?_
          refine kn_ne0 X.1 X.2.1 jd_M_goOn_49 (tgt := 61) (by decide) (by omega) (fun h49 => absurd h49 (by omega)) (fun h49 => ?_)
          refine lv_aload_n X.1 X.2.1 jd_M_goOn_52 rfl (lv_at hl 2 rfl) ?_
          refine jg_M_32_33 X hP jd_M_goOn_53 ?_
          refine lv_iconst (v := nI 1) X.1 X.2.1 jd_M_goOn_56 (by decide) ?_
          refine kn_iadd X.1 X.2.1 jd_M_goOn_57 ?_
          refine lv_goto X.1 X.2.1 jd_M_goOn_58 (tgt := 65) (by decide) ?_
          refine jp_M_32_33 X hap hP hS jd_M_goOn_65 (fun H locs hP hS => ?_)
          refine lv_goto X.1 X.2.1 jd_M_goOn_68 (tgt := 2) (by decide) ?_
          have eN : (goT n (k + 1)).1 = ku (goT n k).1 33 7 ((goT n k).1 33 7 + 1) := by rw [eG]
          have e0 : (goT n (k + 1)).2 = 0 := by rw [eG]
          exact (ih (k + 1) (by omega) e0).2 H locs ls (by rw [eN]; exact hP) hS (lv_sub hl [0, 2] rfl)
        · rw [mmM_1 e9] at eG
          have hl : lv_has ls 3 [(2, .int (nI 1)), (1, .int (nI 1)), (0, .ref (a 33))] := by rw [e9] at hl; exact lv_sub hl [0, 1, 2] rfl
          have eN : (goT n (k + 1)).1 = (srM (goT n k).1).1 := by rw [eG]
          have e0 : (goT n (k + 1)).2 = 0 := by rw [eG]
          have eF := srM_1 e9
          refine (ih (k + 1) (by omega) e0).1 H locs ls ?_ ?_ (by rw [eN]; exact hP) hS hl
          · rw [eN, eF]; exact afM_fp.trans hA
          · rw [eN, eF]; exact h4
        · rw [mmM_2 e9] at eG
          have hl : lv_has ls 3 [(2, .int (nI 2)), (1, .int (nI 1)), (0, .ref (a 33))] := by rw [e9] at hl; exact lv_sub hl [0, 1, 2] rfl
          refine lv_iload_n X.1 X.2.1 jd_M_goOn_24 rfl (lv_at hl 0 rfl) ?_
          refine lv_iconst (v := nI 1) X.1 X.2.1 jd_M_goOn_25 (by decide) ?_
          refine kn_cne X.1 X.2.1 jd_M_goOn_26 (tgt := 37) (by decide) (by omega) (fun h26 => ?_) (fun h26 => absurd h26 (by omega))
          refine lv_iload_n X.1 X.2.1 jd_M_goOn_37 rfl (lv_at hl 0 rfl) ?_
          refine kn_ne0 X.1 X.2.1 jd_M_goOn_38 (tgt := 45) (by decide) (by omega) (fun h38 => ?_) (fun h38 => absurd h38 (by omega))
          refine lv_iconst (v := nI 0) X.1 X.2.1 jd_M_goOn_45 (by decide) ?_
          refine lv_istore_n X.1 X.2.1 jd_M_goOn_46 rfl hl (by decide) rfl (fun ls hl => ?_)
          have hl : lv_has ls 3 [(1, .int (nI 0)), (2, .int (nI 2)), (0, .ref (a 33))] := hl
          refine lv_aload_n X.1 X.2.1 jd_M_goOn_47 rfl (lv_at hl 2 rfl) ?_
          refine lv_iload_n X.1 X.2.1 jd_M_goOn_48 rfl (lv_at hl 1 rfl) ?_
          refine kn_ne0 X.1 X.2.1 jd_M_goOn_49 (tgt := 61) (by decide) (by omega) (fun h49 => ?_) (fun h49 => absurd h49 (by omega))
          refine lv_aload_n X.1 X.2.1 jd_M_goOn_61 rfl (lv_at hl 2 rfl) ?_
          refine jg_M_32_33 X hP jd_M_goOn_62 ?_
          refine jp_M_32_33 X hap hP hS jd_M_goOn_65 (fun H locs hP hS => ?_)
          refine lv_goto X.1 X.2.1 jd_M_goOn_68 (tgt := 2) (by decide) ?_
          rw [ku_self] at hP
          refine lv_iload_n X.1 X.2.1 jd_M_goOn_2 rfl (lv_at hl 0 rfl) ?_
          refine kn_eq0 X.1 X.2.1 jd_M_goOn_3 (tgt := 71) (by decide) (by omega) (fun h3 => ?_) (fun h3 => absurd h3 (by omega))
          exact hQ _ _ _ _ _ _ (by rw [goT_256 (k := k + 1) (by omega) (Or.inl (by rw [eG]; show ¬ 1 = 0; decide)), eG]; exact ⟨rfl, rfl, rfl⟩) hP hS jd_M_goOn_71
      refine ⟨hI, ?_⟩
      intro H locs ls hP hS hl
      refine lv_iload_n X.1 X.2.1 jd_M_goOn_2 rfl (lv_at hl 0 rfl) ?_
      refine kn_eq0 X.1 X.2.1 jd_M_goOn_3 (tgt := 71) (by decide) (by omega) (fun h3 => absurd h3 (by decide)) (fun h3 => ?_)
      refine lv_aload_n X.1 X.2.1 jd_M_goOn_6 rfl (lv_at hl 1 rfl) ?_
      refine jg_M_32_33 X hP jd_M_goOn_7 ?_
      refine lv_iconst (v := nI 4) X.1 X.2.1 jd_M_goOn_10 (by decide) ?_
      refine kn_ceq X.1 X.2.1 jd_M_goOn_11 (tgt := 21) (by decide) (⟨hMk.2.1 _ _, by decide⟩) (fun h11 => ?_) (fun h11 => ?_)
      · skip
        exact hQ _ _ _ _ _ _ (by first | (rw [goT_256 (k := k) (by omega) (Or.inr h11)]; exact ⟨rfl, rfl, rfl⟩) | (have eG := goT_a h0 h11 h18; rw [goT_256 (k := k + 1) (by omega) (Or.inl (by rw [eG]; exact h18)), eG]; exact ⟨rfl, rfl, rfl⟩)) hP hS jd_M_goOn_21
      · skip
        have h47 : (goT n k).1 33 7 < 4 := by have := hMk.2.2.2.2.2.2.1; omega
        refine lv_aload_n X.1 X.2.1 jd_M_goOn_14 rfl (lv_at hl 1 rfl) ?_
        refine j_rune (j_mkV X hP (c_M_asksForBlock l d D a (goT n k).1 g hap hMk (by omega) _) jU_bs (j_pe X hP) jm_761 jm_760 js_44 jm_6 jm_758 (by decide) rfl rfl (show jOk jy_M_asksForBlock 0 by unfold jOk; decide +kernel) (by decide) ⟨rfl, rfl⟩ hl.1 rfl (Nat.le_of_ble_eq_true rfl) ⟨Nat.zero_le _, Nat.zero_le _⟩ jd_M_goOn_15) hS (fun v15 n15 g15 H locs h15 hP hS => ?_)
        obtain ⟨rfl, rfl, rfl⟩ := h15
        refine W.eq (g2 := F0 m 18 ls [.int (nI ((afM (goT n k).1 ((goT n k).1 33 7)).2))]) rfl ?_
        refine kn_eq0 X.1 X.2.1 jd_M_goOn_18 (tgt := 22) (by decide) (by have := afM_two (goT n k).1 ((goT n k).1 33 7); omega) (fun h18 => ?_) (fun h18 => ?_)
        · skip
          rw [afM_zero h18] at hP
          refine lv_iconst (v := nI 1) X.1 X.2.1 jd_M_goOn_22 (by decide) ?_
          refine lv_istore_n X.1 X.2.1 jd_M_goOn_23 rfl hl (by decide) rfl (fun ls hl => ?_)
          have hl : lv_has ls 3 [(2, .int (nI 1)), (1, .int (nI 1)), (0, .ref (a 33))] := hl
          exact hI H locs ls h18 h11 hP hS (lv_sub hl [0, 1, 2] rfl)
        · skip
          exact hQ _ _ _ _ _ _ (by first | (rw [goT_256 (k := k) (by omega) (Or.inr h11)]; exact ⟨rfl, rfl, rfl⟩) | (have eG := goT_a h0 h11 h18; rw [goT_256 (k := k + 1) (by omega) (Or.inl (by rw [eG]; exact h18)), eG]; exact ⟨rfl, rfl, rfl⟩)) hP hS jd_M_goOn_21
  exact (big 256 0 rfl rfl).2 s.heap [] ls hP hS (lv_sub hl [0, 1] rfl)
