theorem c_E_sendF (l : Launch) (d : Nat → Nat) (D : va_G) (a : Nat → Nat) (n : Nat → Nat → Nat) (g : Nat → Nat) (hap : ∀ i j : Nat, i < 52 → j < 52 → a i = a j → i = j) (x y z : Nat) (hc : n 15 0 ≤ 16) : jEff l d D a n g jy_E_send jb_E_send 4 none { frames := 0, cells := 0, slots := 0, locals := 0 } [.ref (a 15), .int (nI x), .int (nI y), .int (nI z)] (fun v9 n2 g2 => none = v9 ∧ sdF n x y z = n2 ∧ g = g2) := by
  unfold sdF
  by_cases h : n 15 0 = 16
  · simp only [if_pos h]
    exact c_E_send_f l d D a n g hap x y z h
  · simp only [if_neg h]
    exact c_E_send l d D a n g hap x y z (by omega)
theorem c_D_askF (l : Launch) (d : Nat → Nat) (D : va_G) (a : Nat → Nat) (n : Nat → Nat → Nat) (g : Nat → Nat) (hap : ∀ i j : Nat, i < 52 → j < 52 → a i = a j → i = j) (q f t mk : Nat) (hq : q < 4) (hf : f < 128) (ht : t ≤ 128) (h2 : n 14 0 < 512) (hc : n 15 0 ≤ 16) : jEff l d D a n g jy_D_ask jb_D_ask 5 none { frames := 1, cells := 0, slots := 0, locals := 23 } [.ref (a 14), .int (nI q), .int (nI f), .int (nI t), .int (nI mk)] (fun v9 n2 g2 => none = v9 ∧ akH n q f t mk = n2 ∧ g = g2) := by
  have e : akG n q f t mk 15 0 = n 15 0 := rfl
  unfold akH sdF
  by_cases h : n 15 0 = 16
  · simp only [e, if_pos h]
    exact c_D_ask_f l d D a n g hap q f t mk hq hf ht h2 h
  · simp only [e, if_neg h]
    exact c_D_ask l d D a n g hap q f t mk hq hf ht h2 (by omega)

set_option maxHeartbeats 4000000 in
theorem c_D_askForBlock (l : Launch) (d : Nat → Nat) (D : va_G) (a : Nat → Nat) (n : Nat → Nat → Nat) (g : Nat → Nat) (hap : ∀ i j : Nat, i < 52 → j < 52 → a i = a j → i = j) (q : Nat) (hq : n 14 3 = q) (hq4 : q < 4) (hz : 4 ≤ n 14 4) (hz2 : n 14 4 ≤ 128) (ht : n 14 4 ≤ n 14 5) (ht2 : n 14 5 ≤ 128) (hkn : ∀ p i, p < 4 → n (25 + p) i < 4294967296) (h2 : n 14 0 < 512) (hc : n 15 0 ≤ 16) : jEff l d D a n g jy_D_askForBlock jb_D_askForBlock 4 (some .boolean) { frames := 2, cells := 0, slots := 0, locals := 47 } [.ref (a 14)] (fun v9 n2 g2 => some (.int (nI (afF n q).2)) = v9 ∧ (afF n q).1 = n2 ∧ g = g2) := by
  refine je_Z (by decide) (Nat.le_of_ble_eq_true rfl) ?_
  intro p e s m A below meth c ls Q X hP hS hl hQ
  have hl : lv_has ls 4 [(0, .ref (a 14))] := hl
  refine lv_aload_n X.1 X.2.1 jd_D_askForBlock_0 rfl (lv_at hl 0 rfl) ?_
  refine lv_aload_n X.1 X.2.1 jd_D_askForBlock_1 rfl (lv_at hl 0 rfl) ?_
  refine jg_D_30_14 X hP jd_D_askForBlock_2 ?_
  refine kn_to (y := q) (hq) ?_
  refine j_run (j_mkV X hP (c_D_blockCount l d D a n g q (by omega) hz hz2 ht ht2) jU_b (j_pp X hP) jm_421 jm_420 js_21 jm_4 jm_418 (by decide) rfl rfl (show jOk jy_D_blockCount 1 by unfold jOk; decide +kernel) (by decide) ⟨rfl, rfl⟩ hl.1 rfl (Nat.le_of_ble_eq_true rfl) ⟨Nat.zero_le _, Nat.zero_le _⟩ jd_D_askForBlock_5) ?_
  refine W.eq (g2 := F0 m 8 ls [.int (nI (bcF n q))]) rfl ?_
  refine lv_istore_n X.1 X.2.1 jd_D_askForBlock_8 rfl hl (by decide) rfl (fun ls hl => ?_)
  have hl : lv_has ls 4 [(1, .int (nI (bcF n q))), (0, .ref (a 14))] := hl
  refine lv_iconst (v := nI 0) X.1 X.2.1 jd_D_askForBlock_9 (by decide) ?_
  refine lv_istore_n X.1 X.2.1 jd_D_askForBlock_10 rfl hl (by decide) rfl (fun ls hl => ?_)
  have hl : lv_has ls 4 [(2, .int (nI 0)), (1, .int (nI (bcF n q))), (0, .ref (a 14))] := hl
  have loop11 : ∀ (r k : Nat) (ls : Array Slot), k + r = bcF n q → fbF (n (25 + q)) (n 14 4 * 2 ^ q) k = none → lv_has ls 4 [(2, .int (nI k)), (1, .int (nI (bcF n q))), (0, .ref (a 14))] → W p l e { frames := 2, cells := 0, slots := 0, locals := 47 } s m A below meth c s.heap [] 0 0 Q (F0 m 11 ls []) := by
    intro r
    induction r with
    | zero => 
      intro k ls hk hn hl
      obtain rfl : bcF n q = k := by omega
      refine lv_iload_n X.1 X.2.1 jd_D_askForBlock_11 rfl (lv_at hl 0 rfl) ?_
      refine lv_iload_n X.1 X.2.1 jd_D_askForBlock_12 rfl (lv_at hl 1 rfl) ?_
      refine kn_cge X.1 X.2.1 jd_D_askForBlock_13 (tgt := 69) (by decide) (by have h9 : bcF n q ≤ 200 := bc_le hz ht2; omega) (fun h13 => ?_) (fun h13 => absurd h13 (by omega))
      refine lv_iconst (v := nI 0) X.1 X.2.1 jd_D_askForBlock_69 (by decide) ?_
      exact hQ _ _ _ _ _ _ _ (by decide) (by rw [af_none hn]; exact ⟨rfl, rfl, rfl⟩) hP hS jd_D_askForBlock_70
    | succ r ihr => 
      intro k ls hk hn hl
      refine lv_iload_n X.1 X.2.1 jd_D_askForBlock_11 rfl (lv_at hl 0 rfl) ?_
      refine lv_iload_n X.1 X.2.1 jd_D_askForBlock_12 rfl (lv_at hl 1 rfl) ?_
      refine kn_cge X.1 X.2.1 jd_D_askForBlock_13 (tgt := 69) (by decide) (by have h9 : bcF n q ≤ 200 := bc_le hz ht2; omega) (fun h13 => absurd h13 (by omega)) (fun h13 => ?_)
      refine lv_iload_n X.1 X.2.1 jd_D_askForBlock_16 rfl (lv_at hl 0 rfl) ?_
      refine lv_aload_n X.1 X.2.1 jd_D_askForBlock_17 rfl (lv_at hl 2 rfl) ?_
      refine lv_aload_n X.1 X.2.1 jd_D_askForBlock_18 rfl (lv_at hl 2 rfl) ?_
      refine jg_D_30_14 X hP jd_D_askForBlock_19 ?_
      refine kn_to (y := q) (hq) ?_
      refine j_run (j_mkV X hP (c_D_blockSize l d D a n g q (by omega) hz2) jU_b (j_pp X hP) jm_425 jm_424 js_22 jm_4 jm_422 (by decide) rfl rfl (show jOk jy_D_blockSize 1 by unfold jOk; decide +kernel) (by decide) ⟨rfl, rfl⟩ hl.1 rfl (Nat.le_of_ble_eq_true rfl) ⟨Nat.zero_le _, Nat.zero_le _⟩ jd_D_askForBlock_22) ?_
      refine W.eq (g2 := F0 m 25 ls [.int (nI (n 14 4 * 2 ^ q)), .int (nI k)]) rfl ?_
      refine kn_imul X.1 X.2.1 jd_D_askForBlock_25 ?_
      refine lv_istore_n X.1 X.2.1 jd_D_askForBlock_26 rfl hl (by decide) rfl (fun ls hl => ?_)
      have hl : lv_has ls 4 [(3, .int (nI (k * (n 14 4 * 2 ^ q)))), (2, .int (nI k)), (1, .int (nI (bcF n q))), (0, .ref (a 14))] := hl
      refine lv_aload_n X.1 X.2.1 jd_D_askForBlock_27 rfl (lv_at hl 3 rfl) ?_
      refine jg_D_23_14 X hP jd_D_askForBlock_28 ?_
      refine lv_aload_n X.1 X.2.1 jd_D_askForBlock_31 rfl (lv_at hl 3 rfl) ?_
      refine jg_D_30_14 X hP jd_D_askForBlock_32 ?_
      refine kn_to (y := q) (hq) ?_
      refine j_aald X hP 24 q (by decide) (by omega) jd_D_askForBlock_35 ?_
      refine lv_iload_n X.1 X.2.1 jd_D_askForBlock_36 rfl (lv_at hl 0 rfl) ?_
      refine j_ald X hP (25 + q) (k * (n 14 4 * 2 ^ q)) (by omega) (by rw [jI_kn hq4]; have h9 := blk_lt (n := n) (q := q) (b := k) (by omega) (by omega); omega) (by rw [jI_kn hq4]; decide) jd_D_askForBlock_37 ?_
      refine lv_iconst (v := nI 4294967295) X.1 X.2.1 jd_D_askForBlock_38 (by decide) ?_
      refine kn_cne X.1 X.2.1 jd_D_askForBlock_39 (tgt := 63) (by decide) (⟨hkn _ _ hq4, by decide⟩) (fun h39 => ?_) (fun h39 => ?_)
      · skip
        refine lv_iinc (k := 1) (v := nI (k + 1)) X.1 X.2.1 jd_D_askForBlock_63 hl rfl (kn_inc _) (by decide) rfl (fun ls hl => ?_)
        have hl : lv_has ls 4 [(2, .int (nI (k + 1))), (3, .int (nI (k * (n 14 4 * 2 ^ q)))), (1, .int (nI (bcF n q))), (0, .ref (a 14))] := hl
        refine lv_goto X.1 X.2.1 jd_D_askForBlock_66 (tgt := 11) (by decide) ?_
        have hl : lv_has ls 4 [(2, .int (nI (k + 1))), (1, .int (nI (bcF n q))), (0, .ref (a 14))] := lv_sub hl [0, 2, 3] rfl
        exact ihr (k + 1) ls (by omega) (fb_none hn h39) hl
      · skip
        refine lv_aload_n X.1 X.2.1 jd_D_askForBlock_42 rfl (lv_at hl 3 rfl) ?_
        refine lv_aload_n X.1 X.2.1 jd_D_askForBlock_43 rfl (lv_at hl 3 rfl) ?_
        refine jg_D_30_14 X hP jd_D_askForBlock_44 ?_
        refine kn_to (y := q) (hq) ?_
        refine lv_iload_n X.1 X.2.1 jd_D_askForBlock_47 rfl (lv_at hl 0 rfl) ?_
        refine lv_aload_n X.1 X.2.1 jd_D_askForBlock_48 rfl (lv_at hl 3 rfl) ?_
        refine lv_aload_n X.1 X.2.1 jd_D_askForBlock_49 rfl (lv_at hl 3 rfl) ?_
        refine jg_D_30_14 X hP jd_D_askForBlock_50 ?_
        refine kn_to (y := q) (hq) ?_
        refine lv_iload_n X.1 X.2.1 jd_D_askForBlock_53 rfl (lv_at hl 0 rfl) ?_
        refine j_run (j_mkV X hP (c_D_blockEnd l d D a n g q (k * (n 14 4 * 2 ^ q)) (by omega) (by have h9 := blk_lt (n := n) (q := q) (b := k) (by omega) (by omega); omega) hz hz2 ht ht2) jU_b (j_pp X hP) jm_429 jm_428 js_23 jm_4 jm_426 (by decide) rfl rfl (show jOk jy_D_blockEnd 2 by unfold jOk; decide +kernel) (by decide) ⟨rfl, rfl⟩ hl.1 rfl (Nat.le_of_ble_eq_true rfl) ⟨Nat.zero_le _, Nat.zero_le _⟩ jd_D_askForBlock_54) ?_
        refine W.eq (g2 := F0 m 57 ls [.int (nI (beF n q (k * (n 14 4 * 2 ^ q)))), .int (nI (k * (n 14 4 * 2 ^ q))), .int (nI q), .ref (a 14)]) rfl ?_
        refine lv_iload_n X.1 X.2.1 jd_D_askForBlock_57 rfl (lv_at hl 0 rfl) ?_
        refine j_rune (j_mkV X hP (c_D_askF l d D a n g hap q (k * (n 14 4 * 2 ^ q)) (beF n q (k * (n 14 4 * 2 ^ q))) (k * (n 14 4 * 2 ^ q)) hq4 (by have h9 := blk_lt (n := n) (q := q) (b := k) (by omega) (by omega); omega) (by have h9 := be_le (n := n) (q := q) (f := (k * (n 14 4 * 2 ^ q))); omega) h2 hc _) jU_bs (j_pe X hP) jm_436 jm_435 js_24 jm_4 jm_433 (by decide) rfl rfl (show jOk jy_D_ask 4 by unfold jOk; decide +kernel) (by decide) ⟨rfl, rfl⟩ hl.1 rfl (Nat.le_of_ble_eq_true rfl) ⟨Nat.zero_le _, Nat.zero_le _⟩ jd_D_askForBlock_58) hS (fun v58 n58 g58 H locs h58 hP hS => ?_)
        obtain ⟨rfl, rfl, rfl⟩ := h58
        refine W.eq (g2 := F0 m 61 ls []) rfl ?_
        refine lv_iconst (v := nI 1) X.1 X.2.1 jd_D_askForBlock_61 (by decide) ?_
        exact hQ _ _ _ _ _ _ _ (by decide) (by have e := af_some (fb_at (by omega) hn h39); rw [e]; exact ⟨rfl, rfl, rfl⟩) hP hS jd_D_askForBlock_62
  have hl : lv_has ls 4 [(2, .int (nI 0)), (1, .int (nI (bcF n q))), (0, .ref (a 14))] := lv_sub hl [0, 1, 2] rfl
  exact loop11 (bcF n q) 0 ls (by omega) (rfl) hl

set_option maxHeartbeats 4000000 in
theorem c_D_smallestOddBlock (l : Launch) (d : Nat → Nat) (D : va_G) (a : Nat → Nat) (n : Nat → Nat → Nat) (g : Nat → Nat) (q : Nat) (hq : n 14 3 = q) (hq4 : q < 4) (hz : 4 ≤ n 14 4) (hz2 : n 14 4 ≤ 128) (ht : n 14 4 ≤ n 14 5) (ht2 : n 14 5 ≤ 128) (hkn : ∀ p i, p < 4 → n (25 + p) i < 4294967296) (ho : ∀ p i, p < 4 → i < n 14 5 → n (20 + p) i < 128) (h01 : ∀ i, n 12 i < 2)  : jPure l d D a n g jy_D_smallestOddBlock jb_D_smallestOddBlock 8 (some .int) { frames := 2, cells := 0, slots := 0, locals := 49 } [.ref (a 14)] (some (.int (nI ((soF n (q + 1)).1)))) := by
  refine jq_I (by decide) (Nat.le_of_ble_eq_true rfl) ?_
  intro p e s m A below meth c ls Q X hP hl hQ
  have hl : lv_has ls 8 [(0, .ref (a 14))] := hl
  refine lv_iconst (v := nI 4294967295) X.1 X.2.1 jd_D_smallestOddBlock_0 (by decide) ?_
  refine lv_istore_n X.1 X.2.1 jd_D_smallestOddBlock_1 rfl hl (by decide) rfl (fun ls hl => ?_)
  have hl : lv_has ls 8 [(1, .int (nI 4294967295)), (0, .ref (a 14))] := hl
  refine lv_sipush (v := nI 129) X.1 X.2.1 jd_D_smallestOddBlock_2 (by decide) ?_
  refine lv_istore_n X.1 X.2.1 jd_D_smallestOddBlock_5 rfl hl (by decide) rfl (fun ls hl => ?_)
  have hl : lv_has ls 8 [(2, .int (nI 129)), (1, .int (nI 4294967295)), (0, .ref (a 14))] := hl
  refine lv_iconst (v := nI 0) X.1 X.2.1 jd_D_smallestOddBlock_6 (by decide) ?_
  refine lv_istore_n X.1 X.2.1 jd_D_smallestOddBlock_7 rfl hl (by decide) rfl (fun ls hl => ?_)
  have hl : lv_has ls 8 [(3, .int (nI 0)), (2, .int (nI 129)), (1, .int (nI 4294967295)), (0, .ref (a 14))] := hl
  have loop8 : ∀ (rA p9 : Nat) (ls : Array Slot), p9 + rA = q + 1 → lv_has ls 8 [(3, .int (nI p9)), (1, .int (nI ((soF n p9).1))), (2, .int (nI ((soF n p9).2))), (0, .ref (a 14))] → W p l e { frames := 2, cells := 0, slots := 0, locals := 49 } s m A below meth c s.heap [] 0 0 Q (F0 m 8 ls []) := by
    intro rA
    induction rA with
    | zero => 
      intro p9 ls hp9 hl
      obtain rfl : q + 1 = p9 := by omega
      refine lv_iload_n X.1 X.2.1 jd_D_smallestOddBlock_8 rfl (lv_at hl 0 rfl) ?_
      refine lv_aload_n X.1 X.2.1 jd_D_smallestOddBlock_9 rfl (lv_at hl 3 rfl) ?_
      refine jg_D_30_14 X hP jd_D_smallestOddBlock_10 ?_
      refine kn_to (y := q) (hq) ?_
      refine kn_cgt X.1 X.2.1 jd_D_smallestOddBlock_13 (tgt := 102) (by decide) (by omega) (fun h13 => ?_) (fun h13 => absurd h13 (by omega))
      refine lv_iload_n X.1 X.2.1 jd_D_smallestOddBlock_102 rfl (lv_at hl 1 rfl) ?_
      exact kn_to (by first | rfl | omega | (split <;> omega)) (hQ _ _ jd_D_smallestOddBlock_103)
    | succ rA ihrA => 
      intro p9 ls hp9 hl
      refine lv_iload_n X.1 X.2.1 jd_D_smallestOddBlock_8 rfl (lv_at hl 0 rfl) ?_
      refine lv_aload_n X.1 X.2.1 jd_D_smallestOddBlock_9 rfl (lv_at hl 3 rfl) ?_
      refine jg_D_30_14 X hP jd_D_smallestOddBlock_10 ?_
      refine kn_to (y := q) (hq) ?_
      refine kn_cgt X.1 X.2.1 jd_D_smallestOddBlock_13 (tgt := 102) (by decide) (by omega) (fun h13 => absurd h13 (by omega)) (fun h13 => ?_)
      refine lv_aload_n X.1 X.2.1 jd_D_smallestOddBlock_16 rfl (lv_at hl 3 rfl) ?_
      refine lv_iload_n X.1 X.2.1 jd_D_smallestOddBlock_17 rfl (lv_at hl 0 rfl) ?_
      refine j_run (j_mkV X hP (c_D_blockCount l d D a n g p9 (by omega) hz hz2 ht ht2) jU_b (j_pp X hP) jm_421 jm_420 js_21 jm_4 jm_418 (by decide) rfl rfl (show jOk jy_D_blockCount 1 by unfold jOk; decide +kernel) (by decide) ⟨rfl, rfl⟩ hl.1 rfl (Nat.le_of_ble_eq_true rfl) ⟨Nat.zero_le _, Nat.zero_le _⟩ jd_D_smallestOddBlock_18) ?_
      refine W.eq (g2 := F0 m 21 ls [.int (nI (bcF n p9))]) rfl ?_
      refine lv_istore X.1 X.2.1 jd_D_smallestOddBlock_21 hl (by decide) rfl (fun ls hl => ?_)
      have hl : lv_has ls 8 [(4, .int (nI (bcF n p9))), (3, .int (nI p9)), (1, .int (nI ((soF n p9).1))), (2, .int (nI ((soF n p9).2))), (0, .ref (a 14))] := hl
      refine lv_iconst (v := nI 0) X.1 X.2.1 jd_D_smallestOddBlock_23 (by decide) ?_
      refine lv_istore X.1 X.2.1 jd_D_smallestOddBlock_24 hl (by decide) rfl (fun ls hl => ?_)
      have hl : lv_has ls 8 [(5, .int (nI 0)), (4, .int (nI (bcF n p9))), (3, .int (nI p9)), (1, .int (nI ((soF n p9).1))), (2, .int (nI ((soF n p9).2))), (0, .ref (a 14))] := hl
      have loopB : ∀ (rB k : Nat) (ls : Array Slot), k + rB = bcF n p9 → lv_has ls 8 [(5, .int (nI k)), (4, .int (nI (bcF n p9))), (1, .int (nI ((sbF n p9 (soF n p9) k).1))), (2, .int (nI ((sbF n p9 (soF n p9) k).2))), (3, .int (nI p9)), (0, .ref (a 14))] → W p l e { frames := 2, cells := 0, slots := 0, locals := 49 } s m A below meth c s.heap [] 0 0 Q (F0 m 26 ls []) := by
        intro rB
        induction rB with
        | zero => 
          intro k ls hk hl
          obtain rfl : bcF n p9 = k := by omega
          refine lv_iload X.1 X.2.1 jd_D_smallestOddBlock_26 (lv_at hl 0 rfl) ?_
          refine lv_iload X.1 X.2.1 jd_D_smallestOddBlock_28 (lv_at hl 1 rfl) ?_
          refine kn_cge X.1 X.2.1 jd_D_smallestOddBlock_30 (tgt := 96) (by decide) (by have h9 : bcF n p9 ≤ 200 := bc_le hz ht2; omega) (fun h30 => ?_) (fun h30 => absurd h30 (by omega))
          refine lv_iinc (k := 4) (v := nI (p9 + 1)) X.1 X.2.1 jd_D_smallestOddBlock_96 hl rfl (kn_inc _) (by decide) rfl (fun ls hl => ?_)
          have hl : lv_has ls 8 [(3, .int (nI (p9 + 1))), (5, .int (nI (bcF n p9))), (4, .int (nI (bcF n p9))), (1, .int (nI ((sbF n p9 (soF n p9) (bcF n p9)).1))), (2, .int (nI ((sbF n p9 (soF n p9) (bcF n p9)).2))), (0, .ref (a 14))] := hl
          refine lv_goto X.1 X.2.1 jd_D_smallestOddBlock_99 (tgt := 8) (by decide) ?_
          have hl : lv_has ls 8 [(3, .int (nI (p9 + 1))), (1, .int (nI ((soF n (p9 + 1)).1))), (2, .int (nI ((soF n (p9 + 1)).2))), (0, .ref (a 14))] := lv_sub hl [0, 3, 4, 5] rfl
          exact ihrA (p9 + 1) ls (by omega) hl
        | succ rB ihrB => 
          intro k ls hk hl
          refine lv_iload X.1 X.2.1 jd_D_smallestOddBlock_26 (lv_at hl 0 rfl) ?_
          refine lv_iload X.1 X.2.1 jd_D_smallestOddBlock_28 (lv_at hl 1 rfl) ?_
          refine kn_cge X.1 X.2.1 jd_D_smallestOddBlock_30 (tgt := 96) (by decide) (by have h9 : bcF n p9 ≤ 200 := bc_le hz ht2; omega) (fun h30 => absurd h30 (by omega)) (fun h30 => ?_)
          refine lv_iload X.1 X.2.1 jd_D_smallestOddBlock_33 (lv_at hl 0 rfl) ?_
          refine lv_aload_n X.1 X.2.1 jd_D_smallestOddBlock_35 rfl (lv_at hl 5 rfl) ?_
          refine lv_iload_n X.1 X.2.1 jd_D_smallestOddBlock_36 rfl (lv_at hl 4 rfl) ?_
          refine j_run (j_mkV X hP (c_D_blockSize l d D a n g p9 (by omega) hz2) jU_b (j_pp X hP) jm_425 jm_424 js_22 jm_4 jm_422 (by decide) rfl rfl (show jOk jy_D_blockSize 1 by unfold jOk; decide +kernel) (by decide) ⟨rfl, rfl⟩ hl.1 rfl (Nat.le_of_ble_eq_true rfl) ⟨Nat.zero_le _, Nat.zero_le _⟩ jd_D_smallestOddBlock_37) ?_
          refine W.eq (g2 := F0 m 40 ls [.int (nI (n 14 4 * 2 ^ p9)), .int (nI k)]) rfl ?_
          refine kn_imul X.1 X.2.1 jd_D_smallestOddBlock_40 ?_
          refine lv_istore X.1 X.2.1 jd_D_smallestOddBlock_41 hl (by decide) rfl (fun ls hl => ?_)
          have hl : lv_has ls 8 [(6, .int (nI (k * (n 14 4 * 2 ^ p9)))), (5, .int (nI k)), (4, .int (nI (bcF n p9))), (1, .int (nI ((sbF n p9 (soF n p9) k).1))), (2, .int (nI ((sbF n p9 (soF n p9) k).2))), (3, .int (nI p9)), (0, .ref (a 14))] := hl
          refine lv_aload_n X.1 X.2.1 jd_D_smallestOddBlock_43 rfl (lv_at hl 6 rfl) ?_
          refine lv_iload_n X.1 X.2.1 jd_D_smallestOddBlock_44 rfl (lv_at hl 5 rfl) ?_
          refine lv_iload X.1 X.2.1 jd_D_smallestOddBlock_45 (lv_at hl 0 rfl) ?_
          refine j_run (j_mkV X hP (c_D_blockEnd l d D a n g p9 (k * (n 14 4 * 2 ^ p9)) (by omega) (by have h9 := blk_lt (n := n) (q := p9) (b := k) (by omega) (by omega); omega) hz hz2 ht ht2) jU_b (j_pp X hP) jm_429 jm_428 js_23 jm_4 jm_426 (by decide) rfl rfl (show jOk jy_D_blockEnd 2 by unfold jOk; decide +kernel) (by decide) ⟨rfl, rfl⟩ hl.1 rfl (Nat.le_of_ble_eq_true rfl) ⟨Nat.zero_le _, Nat.zero_le _⟩ jd_D_smallestOddBlock_47) ?_
          refine W.eq (g2 := F0 m 50 ls [.int (nI (beF n p9 (k * (n 14 4 * 2 ^ p9))))]) rfl ?_
          refine lv_istore X.1 X.2.1 jd_D_smallestOddBlock_50 hl (by decide) rfl (fun ls hl => ?_)
          have hl : lv_has ls 8 [(7, .int (nI (beF n p9 (k * (n 14 4 * 2 ^ p9))))), (6, .int (nI (k * (n 14 4 * 2 ^ p9)))), (5, .int (nI k)), (4, .int (nI (bcF n p9))), (1, .int (nI ((sbF n p9 (soF n p9) k).1))), (2, .int (nI ((sbF n p9 (soF n p9) k).2))), (3, .int (nI p9)), (0, .ref (a 14))] := hl
          refine lv_iload X.1 X.2.1 jd_D_smallestOddBlock_52 (lv_at hl 0 rfl) ?_
          refine lv_iload X.1 X.2.1 jd_D_smallestOddBlock_54 (lv_at hl 1 rfl) ?_
          refine kn_isub X.1 X.2.1 jd_D_smallestOddBlock_56 (by have h9 := blk_lt (n := n) (q := p9) (b := k) (by omega) (by omega); have h8 := be_gt (n := n) (q := p9) (f := (k * (n 14 4 * 2 ^ p9))) hz (by omega); omega) ?_
          refine lv_iload_n X.1 X.2.1 jd_D_smallestOddBlock_57 rfl (lv_at hl 5 rfl) ?_
          refine kn_cge X.1 X.2.1 jd_D_smallestOddBlock_58 (tgt := 90) (by decide) (by have h9 := be_le (n := n) (q := p9) (f := (k * (n 14 4 * 2 ^ p9))); have h8 := (sb_ok (n := n) (q := p9) (z := soF n p9) (by omega) (by omega) ht2 (so_ok (by omega) ht2 p9 (by omega)).1 (so_ok (by omega) ht2 p9 (by omega)).2 k (by omega)).2; omega) (fun h58 => ?_) (fun h58 => ?_)
          · skip
            refine lv_iinc (k := 2) (v := nI (k + 1)) X.1 X.2.1 jd_D_smallestOddBlock_90 hl rfl (kn_inc _) (by decide) rfl (fun ls hl => ?_)
            have hl : lv_has ls 8 [(5, .int (nI (k + 1))), (7, .int (nI (beF n p9 (k * (n 14 4 * 2 ^ p9))))), (6, .int (nI (k * (n 14 4 * 2 ^ p9)))), (4, .int (nI (bcF n p9))), (1, .int (nI ((sbF n p9 (soF n p9) k).1))), (2, .int (nI ((sbF n p9 (soF n p9) k).2))), (3, .int (nI p9)), (0, .ref (a 14))] := hl
            refine lv_goto X.1 X.2.1 jd_D_smallestOddBlock_93 (tgt := 26) (by decide) ?_
            have hl : lv_has ls 8 [(5, .int (nI (k + 1))), (4, .int (nI (bcF n p9))), (1, .int (nI ((sbF n p9 (soF n p9) (k + 1)).1))), (2, .int (nI ((sbF n p9 (soF n p9) (k + 1)).2))), (3, .int (nI p9)), (0, .ref (a 14))] := by first | exact lv_sub hl [0, 3, 4, 5, 6, 7] rfl | (simp only [sbF]; first | (rw [if_pos (by first | exact h58 | omega)]; rw [if_pos (by first | exact h72 | omega)]; exact lv_sub hl [0, 3, 4, 5, 6, 7] rfl) | (rw [if_pos (by first | exact h58 | omega)]; rw [if_neg (by first | exact h72 | omega)]; exact lv_sub hl [0, 3, 4, 5, 6, 7] rfl) | (rw [if_neg (by first | exact h58 | omega)]; rw [if_pos (by first | exact h72 | omega)]; exact lv_sub hl [0, 3, 4, 5, 6, 7] rfl) | (rw [if_neg (by first | exact h58 | omega)]; rw [if_neg (by first | exact h72 | omega)]; exact lv_sub hl [0, 3, 4, 5, 6, 7] rfl) | (rw [if_pos (by first | exact h58 | omega)]; exact lv_sub hl [0, 3, 4, 5, 6, 7] rfl) | (rw [if_neg (by first | exact h58 | omega)]; exact lv_sub hl [0, 3, 4, 5, 6, 7] rfl))
            exact ihrB (k + 1) ls (by omega) hl
          · skip
            refine lv_aload_n X.1 X.2.1 jd_D_smallestOddBlock_61 rfl (lv_at hl 7 rfl) ?_
            refine lv_iload_n X.1 X.2.1 jd_D_smallestOddBlock_62 rfl (lv_at hl 6 rfl) ?_
            refine lv_iload X.1 X.2.1 jd_D_smallestOddBlock_63 (lv_at hl 1 rfl) ?_
            refine lv_iload X.1 X.2.1 jd_D_smallestOddBlock_65 (lv_at hl 0 rfl) ?_
            refine lv_iload X.1 X.2.1 jd_D_smallestOddBlock_67 (lv_at hl 1 rfl) ?_
            refine j_run (j_mkV X hP (c_D_isOdd l d D a n g p9 (k * (n 14 4 * 2 ^ p9)) (beF n p9 (k * (n 14 4 * 2 ^ p9))) (k * (n 14 4 * 2 ^ p9)) (by omega) (by have h9 := blk_lt (n := n) (q := p9) (b := k) (by omega) (by omega); have h8 := be_gt (n := n) (q := p9) (f := (k * (n 14 4 * 2 ^ p9))) hz (by omega); omega) (by have h9 := be_le (n := n) (q := p9) (f := (k * (n 14 4 * 2 ^ p9))); omega) (by have h9 := blk_lt (n := n) (q := p9) (b := k) (by omega) (by omega); omega) (fun i hi => ho _ _ (by omega) (by have h9 := be_le (n := n) (q := p9) (f := (k * (n 14 4 * 2 ^ p9))); omega)) h01 (hkn _ _ (by omega))) jU_b (j_pp X hP) jm_452 jm_451 js_28 jm_4 jm_449 (by decide) rfl rfl (show jOk jy_D_isOdd 4 by unfold jOk; decide +kernel) (by decide) ⟨rfl, rfl⟩ hl.1 rfl (Nat.le_of_ble_eq_true rfl) ⟨Nat.zero_le _, Nat.zero_le _⟩ jd_D_smallestOddBlock_69) ?_
            refine W.eq (g2 := F0 m 72 ls [.int (nI (odF n p9 (k * (n 14 4 * 2 ^ p9)) (beF n p9 (k * (n 14 4 * 2 ^ p9))) (k * (n 14 4 * 2 ^ p9))))]) rfl ?_
            refine kn_eq0 X.1 X.2.1 jd_D_smallestOddBlock_72 (tgt := 90) (by decide) (by have h9 := odF_lt n p9 (k * (n 14 4 * 2 ^ p9)) (beF n p9 (k * (n 14 4 * 2 ^ p9))) (k * (n 14 4 * 2 ^ p9)); omega) (fun h72 => ?_) (fun h72 => ?_)
            · skip
              refine lv_iinc (k := 2) (v := nI (k + 1)) X.1 X.2.1 jd_D_smallestOddBlock_90 hl rfl (kn_inc _) (by decide) rfl (fun ls hl => ?_)
              have hl : lv_has ls 8 [(5, .int (nI (k + 1))), (7, .int (nI (beF n p9 (k * (n 14 4 * 2 ^ p9))))), (6, .int (nI (k * (n 14 4 * 2 ^ p9)))), (4, .int (nI (bcF n p9))), (1, .int (nI ((sbF n p9 (soF n p9) k).1))), (2, .int (nI ((sbF n p9 (soF n p9) k).2))), (3, .int (nI p9)), (0, .ref (a 14))] := hl
              refine lv_goto X.1 X.2.1 jd_D_smallestOddBlock_93 (tgt := 26) (by decide) ?_
              have hl : lv_has ls 8 [(5, .int (nI (k + 1))), (4, .int (nI (bcF n p9))), (1, .int (nI ((sbF n p9 (soF n p9) (k + 1)).1))), (2, .int (nI ((sbF n p9 (soF n p9) (k + 1)).2))), (3, .int (nI p9)), (0, .ref (a 14))] := by first | exact lv_sub hl [0, 3, 4, 5, 6, 7] rfl | (simp only [sbF]; first | (rw [if_pos (by first | exact h58 | omega)]; rw [if_pos (by first | exact h72 | omega)]; exact lv_sub hl [0, 3, 4, 5, 6, 7] rfl) | (rw [if_pos (by first | exact h58 | omega)]; rw [if_neg (by first | exact h72 | omega)]; exact lv_sub hl [0, 3, 4, 5, 6, 7] rfl) | (rw [if_neg (by first | exact h58 | omega)]; rw [if_pos (by first | exact h72 | omega)]; exact lv_sub hl [0, 3, 4, 5, 6, 7] rfl) | (rw [if_neg (by first | exact h58 | omega)]; rw [if_neg (by first | exact h72 | omega)]; exact lv_sub hl [0, 3, 4, 5, 6, 7] rfl) | (rw [if_pos (by first | exact h58 | omega)]; exact lv_sub hl [0, 3, 4, 5, 6, 7] rfl) | (rw [if_neg (by first | exact h58 | omega)]; exact lv_sub hl [0, 3, 4, 5, 6, 7] rfl))
              exact ihrB (k + 1) ls (by omega) hl
            · skip
              refine lv_iload_n X.1 X.2.1 jd_D_smallestOddBlock_75 rfl (lv_at hl 6 rfl) ?_
              refine lv_sipush (v := nI 128) X.1 X.2.1 jd_D_smallestOddBlock_76 (by decide) ?_
              refine kn_imul X.1 X.2.1 jd_D_smallestOddBlock_79 ?_
              refine lv_iload X.1 X.2.1 jd_D_smallestOddBlock_80 (lv_at hl 1 rfl) ?_
              refine kn_iadd X.1 X.2.1 jd_D_smallestOddBlock_82 ?_
              refine lv_istore_n X.1 X.2.1 jd_D_smallestOddBlock_83 rfl hl (by decide) rfl (fun ls hl => ?_)
              have hl : lv_has ls 8 [(1, .int (nI ((p9 * 128) + (k * (n 14 4 * 2 ^ p9))))), (7, .int (nI (beF n p9 (k * (n 14 4 * 2 ^ p9))))), (6, .int (nI (k * (n 14 4 * 2 ^ p9)))), (5, .int (nI k)), (4, .int (nI (bcF n p9))), (2, .int (nI ((sbF n p9 (soF n p9) k).2))), (3, .int (nI p9)), (0, .ref (a 14))] := hl
              refine lv_iload X.1 X.2.1 jd_D_smallestOddBlock_84 (lv_at hl 1 rfl) ?_
              refine lv_iload X.1 X.2.1 jd_D_smallestOddBlock_86 (lv_at hl 2 rfl) ?_
              refine kn_isub X.1 X.2.1 jd_D_smallestOddBlock_88 (by have h9 := blk_lt (n := n) (q := p9) (b := k) (by omega) (by omega); have h8 := be_gt (n := n) (q := p9) (f := (k * (n 14 4 * 2 ^ p9))) hz (by omega); omega) ?_
              refine lv_istore_n X.1 X.2.1 jd_D_smallestOddBlock_89 rfl hl (by decide) rfl (fun ls hl => ?_)
              have hl : lv_has ls 8 [(2, .int (nI ((beF n p9 (k * (n 14 4 * 2 ^ p9))) - (k * (n 14 4 * 2 ^ p9))))), (1, .int (nI ((p9 * 128) + (k * (n 14 4 * 2 ^ p9))))), (7, .int (nI (beF n p9 (k * (n 14 4 * 2 ^ p9))))), (6, .int (nI (k * (n 14 4 * 2 ^ p9)))), (5, .int (nI k)), (4, .int (nI (bcF n p9))), (3, .int (nI p9)), (0, .ref (a 14))] := hl
              refine lv_iinc (k := 4) (v := nI (k + 1)) X.1 X.2.1 jd_D_smallestOddBlock_90 hl rfl (kn_inc _) (by decide) rfl (fun ls hl => ?_)
              have hl : lv_has ls 8 [(5, .int (nI (k + 1))), (2, .int (nI ((beF n p9 (k * (n 14 4 * 2 ^ p9))) - (k * (n 14 4 * 2 ^ p9))))), (1, .int (nI ((p9 * 128) + (k * (n 14 4 * 2 ^ p9))))), (7, .int (nI (beF n p9 (k * (n 14 4 * 2 ^ p9))))), (6, .int (nI (k * (n 14 4 * 2 ^ p9)))), (4, .int (nI (bcF n p9))), (3, .int (nI p9)), (0, .ref (a 14))] := hl
              refine lv_goto X.1 X.2.1 jd_D_smallestOddBlock_93 (tgt := 26) (by decide) ?_
              have hl : lv_has ls 8 [(5, .int (nI (k + 1))), (4, .int (nI (bcF n p9))), (1, .int (nI ((sbF n p9 (soF n p9) (k + 1)).1))), (2, .int (nI ((sbF n p9 (soF n p9) (k + 1)).2))), (3, .int (nI p9)), (0, .ref (a 14))] := by first | exact lv_sub hl [0, 5, 2, 1, 6, 7] rfl | (simp only [sbF]; first | (rw [if_pos (by first | exact h58 | omega)]; rw [if_pos (by first | exact h72 | omega)]; exact lv_sub hl [0, 5, 2, 1, 6, 7] rfl) | (rw [if_pos (by first | exact h58 | omega)]; rw [if_neg (by first | exact h72 | omega)]; exact lv_sub hl [0, 5, 2, 1, 6, 7] rfl) | (rw [if_neg (by first | exact h58 | omega)]; rw [if_pos (by first | exact h72 | omega)]; exact lv_sub hl [0, 5, 2, 1, 6, 7] rfl) | (rw [if_neg (by first | exact h58 | omega)]; rw [if_neg (by first | exact h72 | omega)]; exact lv_sub hl [0, 5, 2, 1, 6, 7] rfl) | (rw [if_pos (by first | exact h58 | omega)]; exact lv_sub hl [0, 5, 2, 1, 6, 7] rfl) | (rw [if_neg (by first | exact h58 | omega)]; exact lv_sub hl [0, 5, 2, 1, 6, 7] rfl))
              exact ihrB (k + 1) ls (by omega) hl
      have hl : lv_has ls 8 [(5, .int (nI 0)), (4, .int (nI (bcF n p9))), (1, .int (nI ((sbF n p9 (soF n p9) 0).1))), (2, .int (nI ((sbF n p9 (soF n p9) 0).2))), (3, .int (nI p9)), (0, .ref (a 14))] := lv_sub hl [0, 1, 3, 4, 2, 5] rfl
      exact loopB (bcF n p9) 0 ls (by omega) hl
  have hl : lv_has ls 8 [(3, .int (nI 0)), (1, .int (nI ((soF n 0).1))), (2, .int (nI ((soF n 0).2))), (0, .ref (a 14))] := lv_sub hl [0, 2, 1, 3] rfl
  exact loop8 (q + 1) 0 ls (by omega) hl

set_option maxHeartbeats 4000000 in
theorem c_D_search (l : Launch) (d : Nat → Nat) (D : va_G) (a : Nat → Nat) (n : Nat → Nat → Nat) (g : Nat → Nat) (hap : ∀ i j : Nat, i < 52 → j < 52 → a i = a j → i = j) (q f : Nat) (hq4 : q < 4) (hf : f < n 14 5) (hz : 4 ≤ n 14 4) (hz2 : n 14 4 ≤ 128) (ht : n 14 4 ≤ n 14 5) (ht2 : n 14 5 ≤ 128) (hkn : ∀ p i, p < 4 → n (25 + p) i < 4294967296) (ho : ∀ p i, p < 4 → i < n 14 5 → n (20 + p) i < 128) (h01 : ∀ i, n 12 i < 2) (h2 : n 14 0 < 512) (hc : n 15 0 ≤ 16) : jEff l d D a n g jy_D_search jb_D_search 7 (some .boolean) { frames := 2, cells := 0, slots := 0, locals := 49 } [.ref (a 14), .int (nI q), .int (nI f)] (fun v9 n2 g2 => some (.int (nI (srF n q f).2)) = v9 ∧ (srF n q f).1 = n2 ∧ g = g2) := by
  refine je_Z (by decide) (Nat.le_of_ble_eq_true rfl) ?_
  intro p e s m A below meth c ls Q X hP hS hl hQ
  have hl : lv_has ls 7 [(0, .ref (a 14)), (1, .int (nI q)), (2, .int (nI f))] := hl
  refine lv_iload_n X.1 X.2.1 jd_D_search_0 rfl (lv_at hl 2 rfl) ?_
  refine lv_istore_n X.1 X.2.1 jd_D_search_1 rfl hl (by decide) rfl (fun ls hl => ?_)
  have hl : lv_has ls 7 [(3, .int (nI f)), (0, .ref (a 14)), (1, .int (nI q)), (2, .int (nI f))] := hl
  refine lv_aload_n X.1 X.2.1 jd_D_search_2 rfl (lv_at hl 1 rfl) ?_
  refine lv_iload_n X.1 X.2.1 jd_D_search_3 rfl (lv_at hl 2 rfl) ?_
  refine lv_iload_n X.1 X.2.1 jd_D_search_4 rfl (lv_at hl 3 rfl) ?_
  refine j_run (j_mkV X hP (c_D_blockEnd l d D a n g q f (by omega) (by omega) hz hz2 ht ht2) jU_b (j_pp X hP) jm_429 jm_428 js_23 jm_4 jm_426 (by decide) rfl rfl (show jOk jy_D_blockEnd 2 by unfold jOk; decide +kernel) (by decide) ⟨rfl, rfl⟩ hl.1 rfl (Nat.le_of_ble_eq_true rfl) ⟨Nat.zero_le _, Nat.zero_le _⟩ jd_D_search_5) ?_
  refine W.eq (g2 := F0 m 8 ls [.int (nI (beF n q f))]) rfl ?_
  refine lv_istore X.1 X.2.1 jd_D_search_8 hl (by decide) rfl (fun ls hl => ?_)
  have hl : lv_has ls 7 [(4, .int (nI (beF n q f))), (3, .int (nI f)), (0, .ref (a 14)), (1, .int (nI q)), (2, .int (nI f))] := hl
  refine lv_iconst (v := nI 0) X.1 X.2.1 jd_D_search_10 (by decide) ?_
  refine lv_istore X.1 X.2.1 jd_D_search_11 hl (by decide) rfl (fun ls hl => ?_)
  have hl : lv_has ls 7 [(5, .int (nI 0)), (4, .int (nI (beF n q f))), (3, .int (nI f)), (0, .ref (a 14)), (1, .int (nI q)), (2, .int (nI f))] := hl
  have loop13 : ∀ (r k : Nat) (ls : Array Slot), k + r = 128 → hvI (f, beF n q f) (hvF n q (f, beF n q f) k) k → lv_has ls 7 [(5, .int (nI k)), (3, .int (nI ((hvF n q (f, beF n q f) k).1))), (4, .int (nI ((hvF n q (f, beF n q f) k).2))), (0, .ref (a 14)), (1, .int (nI q)), (2, .int (nI f))] → W p l e { frames := 2, cells := 0, slots := 0, locals := 49 } s m A below meth c s.heap [] 0 0 Q (F0 m 13 ls []) := by
    intro r
    induction r with
    | zero => 
      intro k ls hk hI hl
      obtain rfl : 128 = k := by omega
      refine lv_iload X.1 X.2.1 jd_D_search_13 (lv_at hl 0 rfl) ?_
      refine lv_sipush (v := nI 128) X.1 X.2.1 jd_D_search_15 (by decide) ?_
      refine kn_cge X.1 X.2.1 jd_D_search_18 (tgt := 95) (by decide) (by omega) (fun h18 => ?_) (fun h18 => absurd h18 (by omega))
      refine lv_aload_n X.1 X.2.1 jd_D_search_95 rfl (lv_at hl 3 rfl) ?_
      refine jg_D_38_14 X hP jd_D_search_96 ?_
      refine jg_D_145_7 X hP jd_D_search_99 ?_
      refine lv_aload_n X.1 X.2.1 jd_D_search_102 rfl (lv_at hl 3 rfl) ?_
      refine jg_D_20_14 X hP jd_D_search_103 ?_
      refine lv_iload_n X.1 X.2.1 jd_D_search_106 rfl (lv_at hl 4 rfl) ?_
      refine j_aald X hP 19 q (by decide) (by omega) jd_D_search_107 ?_
      refine lv_iload_n X.1 X.2.1 jd_D_search_108 rfl (lv_at hl 1 rfl) ?_
      refine j_ald X hP (20 + q) ((hvF n q (f, beF n q f) 128).1) (by omega) (by rw [jI_or hq4]; have h9 := be_le (n := n) (q := q) (f := f); have hv := hI; simp only [hvI] at hv; omega) (by rw [jI_or hq4]; decide) jd_D_search_109 ?_
      refine lv_dup2_11 X.1 X.2.1 jd_D_search_110 rfl rfl ?_
      refine j_ald X hP 12 (n (20 + q) ((hvF n q (f, beF n q f) 128).1)) (by decide) (show (n (20 + q) ((hvF n q (f, beF n q f) 128).1)) < 128 from ho _ _ hq4 (by have h9 := be_le (n := n) (q := q) (f := f); have hv := hI; simp only [hvI] at hv; omega)) (by decide) jd_D_search_111 ?_
      refine lv_iconst (v := nI 1) X.1 X.2.1 jd_D_search_112 (by decide) ?_
      refine kn_ixor X.1 X.2.1 jd_D_search_113 ?_
      refine j_ast X hap hP hS 12 (n (20 + q) ((hvF n q (f, beF n q f) 128).1)) ((n 12 (n (20 + q) ((hvF n q (f, beF n q f) 128).1))) ^^^ 1) (by decide) (show (n (20 + q) ((hvF n q (f, beF n q f) 128).1)) < 128 from ho _ _ hq4 (by have h9 := be_le (n := n) (q := q) (f := f); have hv := hI; simp only [hvI] at hv; omega)) (by decide) jd_D_search_114 (fun H locs hP hS => ?_)
      refine lv_iconst (v := nI 0) X.1 X.2.1 jd_D_search_115 (by decide) ?_
      exact hQ _ _ _ _ _ _ _ (by decide) (by first | (unfold srF; rw [hv_128 (k := k) (by omega) (Or.inl h26), if_pos h26]; exact ⟨rfl, rfl, rfl⟩) | (exfalso; simp only [hvI] at hI; omega)) hP hS jd_D_search_116
    | succ r ihr => 
      intro k ls hk hI hl
      refine lv_iload X.1 X.2.1 jd_D_search_13 (lv_at hl 0 rfl) ?_
      refine lv_sipush (v := nI 128) X.1 X.2.1 jd_D_search_15 (by decide) ?_
      refine kn_cge X.1 X.2.1 jd_D_search_18 (tgt := 95) (by decide) (by omega) (fun h18 => absurd h18 (by omega)) (fun h18 => ?_)
      refine lv_iload X.1 X.2.1 jd_D_search_21 (lv_at hl 2 rfl) ?_
      refine lv_iload_n X.1 X.2.1 jd_D_search_23 rfl (lv_at hl 1 rfl) ?_
      refine kn_isub X.1 X.2.1 jd_D_search_24 (by have h9 := be_le (n := n) (q := q) (f := f); have hv := hI; simp only [hvI] at hv; omega) ?_
      refine lv_iconst (v := nI 1) X.1 X.2.1 jd_D_search_25 (by decide) ?_
      refine kn_cle X.1 X.2.1 jd_D_search_26 (tgt := 95) (by decide) (by have h9 := be_le (n := n) (q := q) (f := f); have hv := hI; simp only [hvI] at hv; omega) (fun h26 => ?_) (fun h26 => ?_)
      · skip
        refine lv_aload_n X.1 X.2.1 jd_D_search_95 rfl (lv_at hl 3 rfl) ?_
        refine jg_D_38_14 X hP jd_D_search_96 ?_
        refine jg_D_145_7 X hP jd_D_search_99 ?_
        refine lv_aload_n X.1 X.2.1 jd_D_search_102 rfl (lv_at hl 3 rfl) ?_
        refine jg_D_20_14 X hP jd_D_search_103 ?_
        refine lv_iload_n X.1 X.2.1 jd_D_search_106 rfl (lv_at hl 4 rfl) ?_
        refine j_aald X hP 19 q (by decide) (by omega) jd_D_search_107 ?_
        refine lv_iload_n X.1 X.2.1 jd_D_search_108 rfl (lv_at hl 1 rfl) ?_
        refine j_ald X hP (20 + q) ((hvF n q (f, beF n q f) k).1) (by omega) (by rw [jI_or hq4]; have h9 := be_le (n := n) (q := q) (f := f); have hv := hI; simp only [hvI] at hv; omega) (by rw [jI_or hq4]; decide) jd_D_search_109 ?_
        refine lv_dup2_11 X.1 X.2.1 jd_D_search_110 rfl rfl ?_
        refine j_ald X hP 12 (n (20 + q) ((hvF n q (f, beF n q f) k).1)) (by decide) (show (n (20 + q) ((hvF n q (f, beF n q f) k).1)) < 128 from ho _ _ hq4 (by have h9 := be_le (n := n) (q := q) (f := f); have hv := hI; simp only [hvI] at hv; omega)) (by decide) jd_D_search_111 ?_
        refine lv_iconst (v := nI 1) X.1 X.2.1 jd_D_search_112 (by decide) ?_
        refine kn_ixor X.1 X.2.1 jd_D_search_113 ?_
        refine j_ast X hap hP hS 12 (n (20 + q) ((hvF n q (f, beF n q f) k).1)) ((n 12 (n (20 + q) ((hvF n q (f, beF n q f) k).1))) ^^^ 1) (by decide) (show (n (20 + q) ((hvF n q (f, beF n q f) k).1)) < 128 from ho _ _ hq4 (by have h9 := be_le (n := n) (q := q) (f := f); have hv := hI; simp only [hvI] at hv; omega)) (by decide) jd_D_search_114 (fun H locs hP hS => ?_)
        refine lv_iconst (v := nI 0) X.1 X.2.1 jd_D_search_115 (by decide) ?_
        exact hQ _ _ _ _ _ _ _ (by decide) (by first | (unfold srF; rw [hv_128 (k := k) (by omega) (Or.inl h26), if_pos h26]; exact ⟨rfl, rfl, rfl⟩) | (exfalso; simp only [hvI] at hI; omega)) hP hS jd_D_search_116
      · skip
        refine lv_iload_n X.1 X.2.1 jd_D_search_29 rfl (lv_at hl 1 rfl) ?_
        refine lv_iload X.1 X.2.1 jd_D_search_30 (lv_at hl 2 rfl) ?_
        refine lv_iload_n X.1 X.2.1 jd_D_search_32 rfl (lv_at hl 1 rfl) ?_
        refine kn_isub X.1 X.2.1 jd_D_search_33 (by have h9 := be_le (n := n) (q := q) (f := f); have hv := hI; simp only [hvI] at hv; omega) ?_
        refine lv_iconst (v := nI 1) X.1 X.2.1 jd_D_search_34 (by decide) ?_
        refine kn_iadd X.1 X.2.1 jd_D_search_35 ?_
        refine lv_iconst (v := nI 2) X.1 X.2.1 jd_D_search_36 (by decide) ?_
        refine kn_idiv X.1 X.2.1 jd_D_search_37 (by have h9 := be_le (n := n) (q := q) (f := f); have hv := hI; simp only [hvI] at hv; omega) ?_
        refine kn_iadd X.1 X.2.1 jd_D_search_38 ?_
        refine kn_to (y := mdF (hvF n q (f, beF n q f) k)) (rfl) ?_
        refine lv_istore X.1 X.2.1 jd_D_search_39 hl (by decide) rfl (fun ls hl => ?_)
        have hl : lv_has ls 7 [(6, .int (nI (mdF (hvF n q (f, beF n q f) k)))), (5, .int (nI k)), (3, .int (nI ((hvF n q (f, beF n q f) k).1))), (4, .int (nI ((hvF n q (f, beF n q f) k).2))), (0, .ref (a 14)), (1, .int (nI q)), (2, .int (nI f))] := hl
        refine lv_aload_n X.1 X.2.1 jd_D_search_41 rfl (lv_at hl 4 rfl) ?_
        refine jg_D_23_14 X hP jd_D_search_42 ?_
        refine lv_iload_n X.1 X.2.1 jd_D_search_45 rfl (lv_at hl 5 rfl) ?_
        refine j_aald X hP 24 q (by decide) (by omega) jd_D_search_46 ?_
        refine lv_iload X.1 X.2.1 jd_D_search_47 (lv_at hl 0 rfl) ?_
        refine j_ald X hP (25 + q) (mdF (hvF n q (f, beF n q f) k)) (by omega) (by rw [jI_kn hq4]; have h9 := be_le (n := n) (q := q) (f := f); have hv := hI; simp only [hvI] at hv; have h8 := md_in (w := (hvF n q (f, beF n q f) k)) (by omega); omega) (by rw [jI_kn hq4]; decide) jd_D_search_49 ?_
        refine lv_iconst (v := nI 4294967295) X.1 X.2.1 jd_D_search_50 (by decide) ?_
        refine kn_cne X.1 X.2.1 jd_D_search_51 (tgt := 66) (by decide) (⟨hkn _ _ hq4, by decide⟩) (fun h51 => ?_) (fun h51 => ?_)
        · skip
          refine lv_aload_n X.1 X.2.1 jd_D_search_66 rfl (lv_at hl 4 rfl) ?_
          refine lv_iload_n X.1 X.2.1 jd_D_search_67 rfl (lv_at hl 5 rfl) ?_
          refine lv_iload_n X.1 X.2.1 jd_D_search_68 rfl (lv_at hl 2 rfl) ?_
          refine lv_iload X.1 X.2.1 jd_D_search_69 (lv_at hl 0 rfl) ?_
          refine lv_iload X.1 X.2.1 jd_D_search_71 (lv_at hl 0 rfl) ?_
          refine j_run (j_mkV X hP (c_D_isOdd l d D a n g q (hvF n q (f, beF n q f) k).1 (mdF (hvF n q (f, beF n q f) k)) (mdF (hvF n q (f, beF n q f) k)) hq4 (by have h9 := be_le (n := n) (q := q) (f := f); have hv := hI; simp only [hvI] at hv; have h8 := md_in (w := (hvF n q (f, beF n q f) k)) (by omega); omega) (by have h9 := be_le (n := n) (q := q) (f := f); have hv := hI; simp only [hvI] at hv; have h8 := md_in (w := (hvF n q (f, beF n q f) k)) (by omega); omega) (by have h9 := be_le (n := n) (q := q) (f := f); have hv := hI; simp only [hvI] at hv; have h8 := md_in (w := (hvF n q (f, beF n q f) k)) (by omega); omega) (fun i hi => ho _ _ hq4 (by have h9 := be_le (n := n) (q := q) (f := f); have hv := hI; simp only [hvI] at hv; have h8 := md_in (w := (hvF n q (f, beF n q f) k)) (by omega); omega)) h01 (hkn _ _ hq4)) jU_b (j_pp X hP) jm_452 jm_451 js_28 jm_4 jm_449 (by decide) rfl rfl (show jOk jy_D_isOdd 4 by unfold jOk; decide +kernel) (by decide) ⟨rfl, rfl⟩ hl.1 rfl (Nat.le_of_ble_eq_true rfl) ⟨Nat.zero_le _, Nat.zero_le _⟩ jd_D_search_73) ?_
          refine W.eq (g2 := F0 m 76 ls [.int (nI (odF n q (hvF n q (f, beF n q f) k).1 (mdF (hvF n q (f, beF n q f) k)) (mdF (hvF n q (f, beF n q f) k))))]) rfl ?_
          refine kn_eq0 X.1 X.2.1 jd_D_search_76 (tgt := 86) (by decide) (by have h9 := odF_lt n q (hvF n q (f, beF n q f) k).1 (mdF (hvF n q (f, beF n q f) k)) (mdF (hvF n q (f, beF n q f) k)); omega) (fun h76 => ?_) (fun h76 => ?_)
          · skip
            refine lv_iload X.1 X.2.1 jd_D_search_86 (lv_at hl 0 rfl) ?_
            refine lv_istore_n X.1 X.2.1 jd_D_search_88 rfl hl (by decide) rfl (fun ls hl => ?_)
            have hl : lv_has ls 7 [(3, .int (nI (mdF (hvF n q (f, beF n q f) k)))), (6, .int (nI (mdF (hvF n q (f, beF n q f) k)))), (5, .int (nI k)), (4, .int (nI ((hvF n q (f, beF n q f) k).2))), (0, .ref (a 14)), (1, .int (nI q)), (2, .int (nI f))] := hl
            refine lv_iinc (k := 2) (v := nI (k + 1)) X.1 X.2.1 jd_D_search_89 hl rfl (kn_inc _) (by decide) rfl (fun ls hl => ?_)
            have hl : lv_has ls 7 [(5, .int (nI (k + 1))), (3, .int (nI (mdF (hvF n q (f, beF n q f) k)))), (6, .int (nI (mdF (hvF n q (f, beF n q f) k)))), (4, .int (nI ((hvF n q (f, beF n q f) k).2))), (0, .ref (a 14)), (1, .int (nI q)), (2, .int (nI f))] := hl
            refine lv_goto X.1 X.2.1 jd_D_search_92 (tgt := 13) (by decide) ?_
            have hl : lv_has ls 7 [(5, .int (nI (k + 1))), (3, .int (nI ((hvF n q (f, beF n q f) (k + 1)).1))), (4, .int (nI ((hvF n q (f, beF n q f) (k + 1)).2))), (0, .ref (a 14)), (1, .int (nI q)), (2, .int (nI f))] := by first | exact lv_sub hl [0, 1, 3, 4, 5, 6] rfl | (simp only [hvF]; first | (rw [if_pos (by first | exact h26 | omega)]; rw [if_pos (by first | exact h51 | omega)]; rw [if_pos (by first | exact h76 | omega)]; exact lv_sub hl [0, 1, 3, 4, 5, 6] rfl) | (rw [if_pos (by first | exact h26 | omega)]; rw [if_pos (by first | exact h51 | omega)]; rw [if_neg (by first | exact h76 | omega)]; exact lv_sub hl [0, 1, 3, 4, 5, 6] rfl) | (rw [if_pos (by first | exact h26 | omega)]; rw [if_neg (by first | exact h51 | omega)]; rw [if_pos (by first | exact h76 | omega)]; exact lv_sub hl [0, 1, 3, 4, 5, 6] rfl) | (rw [if_pos (by first | exact h26 | omega)]; rw [if_neg (by first | exact h51 | omega)]; rw [if_neg (by first | exact h76 | omega)]; exact lv_sub hl [0, 1, 3, 4, 5, 6] rfl) | (rw [if_neg (by first | exact h26 | omega)]; rw [if_pos (by first | exact h51 | omega)]; rw [if_pos (by first | exact h76 | omega)]; exact lv_sub hl [0, 1, 3, 4, 5, 6] rfl) | (rw [if_neg (by first | exact h26 | omega)]; rw [if_pos (by first | exact h51 | omega)]; rw [if_neg (by first | exact h76 | omega)]; exact lv_sub hl [0, 1, 3, 4, 5, 6] rfl) | (rw [if_neg (by first | exact h26 | omega)]; rw [if_neg (by first | exact h51 | omega)]; rw [if_pos (by first | exact h76 | omega)]; exact lv_sub hl [0, 1, 3, 4, 5, 6] rfl) | (rw [if_neg (by first | exact h26 | omega)]; rw [if_neg (by first | exact h51 | omega)]; rw [if_neg (by first | exact h76 | omega)]; exact lv_sub hl [0, 1, 3, 4, 5, 6] rfl) | (rw [if_pos (by first | exact h26 | omega)]; rw [if_pos (by first | exact h51 | omega)]; exact lv_sub hl [0, 1, 3, 4, 5, 6] rfl) | (rw [if_pos (by first | exact h26 | omega)]; rw [if_neg (by first | exact h51 | omega)]; exact lv_sub hl [0, 1, 3, 4, 5, 6] rfl) | (rw [if_neg (by first | exact h26 | omega)]; rw [if_pos (by first | exact h51 | omega)]; exact lv_sub hl [0, 1, 3, 4, 5, 6] rfl) | (rw [if_neg (by first | exact h26 | omega)]; rw [if_neg (by first | exact h51 | omega)]; exact lv_sub hl [0, 1, 3, 4, 5, 6] rfl) | (rw [if_pos (by first | exact h26 | omega)]; exact lv_sub hl [0, 1, 3, 4, 5, 6] rfl) | (rw [if_neg (by first | exact h26 | omega)]; exact lv_sub hl [0, 1, 3, 4, 5, 6] rfl))
            exact ihr (k + 1) ls (by omega) (hv_next hI (by omega) h51 h76) hl
          · skip
            refine lv_iload X.1 X.2.1 jd_D_search_79 (lv_at hl 0 rfl) ?_
            refine lv_istore X.1 X.2.1 jd_D_search_81 hl (by decide) rfl (fun ls hl => ?_)
            have hl : lv_has ls 7 [(4, .int (nI (mdF (hvF n q (f, beF n q f) k)))), (6, .int (nI (mdF (hvF n q (f, beF n q f) k)))), (5, .int (nI k)), (3, .int (nI ((hvF n q (f, beF n q f) k).1))), (0, .ref (a 14)), (1, .int (nI q)), (2, .int (nI f))] := hl
            refine lv_goto X.1 X.2.1 jd_D_search_83 (tgt := 89) (by decide) ?_
            refine lv_iinc (k := 2) (v := nI (k + 1)) X.1 X.2.1 jd_D_search_89 hl rfl (kn_inc _) (by decide) rfl (fun ls hl => ?_)
            have hl : lv_has ls 7 [(5, .int (nI (k + 1))), (4, .int (nI (mdF (hvF n q (f, beF n q f) k)))), (6, .int (nI (mdF (hvF n q (f, beF n q f) k)))), (3, .int (nI ((hvF n q (f, beF n q f) k).1))), (0, .ref (a 14)), (1, .int (nI q)), (2, .int (nI f))] := hl
            refine lv_goto X.1 X.2.1 jd_D_search_92 (tgt := 13) (by decide) ?_
            have hl : lv_has ls 7 [(5, .int (nI (k + 1))), (3, .int (nI ((hvF n q (f, beF n q f) (k + 1)).1))), (4, .int (nI ((hvF n q (f, beF n q f) (k + 1)).2))), (0, .ref (a 14)), (1, .int (nI q)), (2, .int (nI f))] := by first | exact lv_sub hl [0, 3, 1, 4, 5, 6] rfl | (simp only [hvF]; first | (rw [if_pos (by first | exact h26 | omega)]; rw [if_pos (by first | exact h51 | omega)]; rw [if_pos (by first | exact h76 | omega)]; exact lv_sub hl [0, 3, 1, 4, 5, 6] rfl) | (rw [if_pos (by first | exact h26 | omega)]; rw [if_pos (by first | exact h51 | omega)]; rw [if_neg (by first | exact h76 | omega)]; exact lv_sub hl [0, 3, 1, 4, 5, 6] rfl) | (rw [if_pos (by first | exact h26 | omega)]; rw [if_neg (by first | exact h51 | omega)]; rw [if_pos (by first | exact h76 | omega)]; exact lv_sub hl [0, 3, 1, 4, 5, 6] rfl) | (rw [if_pos (by first | exact h26 | omega)]; rw [if_neg (by first | exact h51 | omega)]; rw [if_neg (by first | exact h76 | omega)]; exact lv_sub hl [0, 3, 1, 4, 5, 6] rfl) | (rw [if_neg (by first | exact h26 | omega)]; rw [if_pos (by first | exact h51 | omega)]; rw [if_pos (by first | exact h76 | omega)]; exact lv_sub hl [0, 3, 1, 4, 5, 6] rfl) | (rw [if_neg (by first | exact h26 | omega)]; rw [if_pos (by first | exact h51 | omega)]; rw [if_neg (by first | exact h76 | omega)]; exact lv_sub hl [0, 3, 1, 4, 5, 6] rfl) | (rw [if_neg (by first | exact h26 | omega)]; rw [if_neg (by first | exact h51 | omega)]; rw [if_pos (by first | exact h76 | omega)]; exact lv_sub hl [0, 3, 1, 4, 5, 6] rfl) | (rw [if_neg (by first | exact h26 | omega)]; rw [if_neg (by first | exact h51 | omega)]; rw [if_neg (by first | exact h76 | omega)]; exact lv_sub hl [0, 3, 1, 4, 5, 6] rfl) | (rw [if_pos (by first | exact h26 | omega)]; rw [if_pos (by first | exact h51 | omega)]; exact lv_sub hl [0, 3, 1, 4, 5, 6] rfl) | (rw [if_pos (by first | exact h26 | omega)]; rw [if_neg (by first | exact h51 | omega)]; exact lv_sub hl [0, 3, 1, 4, 5, 6] rfl) | (rw [if_neg (by first | exact h26 | omega)]; rw [if_pos (by first | exact h51 | omega)]; exact lv_sub hl [0, 3, 1, 4, 5, 6] rfl) | (rw [if_neg (by first | exact h26 | omega)]; rw [if_neg (by first | exact h51 | omega)]; exact lv_sub hl [0, 3, 1, 4, 5, 6] rfl) | (rw [if_pos (by first | exact h26 | omega)]; exact lv_sub hl [0, 3, 1, 4, 5, 6] rfl) | (rw [if_neg (by first | exact h26 | omega)]; exact lv_sub hl [0, 3, 1, 4, 5, 6] rfl))
            exact ihr (k + 1) ls (by omega) (hv_next hI (by omega) h51 h76) hl
        · skip
          refine lv_aload_n X.1 X.2.1 jd_D_search_54 rfl (lv_at hl 4 rfl) ?_
          refine lv_iload_n X.1 X.2.1 jd_D_search_55 rfl (lv_at hl 5 rfl) ?_
          refine lv_iload_n X.1 X.2.1 jd_D_search_56 rfl (lv_at hl 2 rfl) ?_
          refine lv_iload X.1 X.2.1 jd_D_search_57 (lv_at hl 0 rfl) ?_
          refine lv_iload X.1 X.2.1 jd_D_search_59 (lv_at hl 0 rfl) ?_
          refine j_rune (j_mkV X hP (c_D_askF l d D a n g hap q (hvF n q (f, beF n q f) k).1 (mdF (hvF n q (f, beF n q f) k)) (mdF (hvF n q (f, beF n q f) k)) hq4 (by have h9 := be_le (n := n) (q := q) (f := f); have hv := hI; simp only [hvI] at hv; omega) (by have h9 := be_le (n := n) (q := q) (f := f); have hv := hI; simp only [hvI] at hv; have h8 := md_in (w := (hvF n q (f, beF n q f) k)) (by omega); omega) h2 hc _) jU_bs (j_pe X hP) jm_436 jm_435 js_24 jm_4 jm_433 (by decide) rfl rfl (show jOk jy_D_ask 4 by unfold jOk; decide +kernel) (by decide) ⟨rfl, rfl⟩ hl.1 rfl (Nat.le_of_ble_eq_true rfl) ⟨Nat.zero_le _, Nat.zero_le _⟩ jd_D_search_61) hS (fun v61 n61 g61 H locs h61 hP hS => ?_)
          obtain ⟨rfl, rfl, rfl⟩ := h61
          refine W.eq (g2 := F0 m 64 ls []) rfl ?_
          refine lv_iconst (v := nI 1) X.1 X.2.1 jd_D_search_64 (by decide) ?_
          exact hQ _ _ _ _ _ _ _ (by decide) (by unfold srF; rw [hv_128 (k := k) (by omega) (Or.inr h51), if_neg (by omega)]; exact ⟨rfl, rfl, rfl⟩) hP hS jd_D_search_65
  have hl : lv_has ls 7 [(5, .int (nI 0)), (3, .int (nI ((hvF n q (f, beF n q f) 0).1))), (4, .int (nI ((hvF n q (f, beF n q f) 0).2))), (0, .ref (a 14)), (1, .int (nI q)), (2, .int (nI f))] := lv_sub hl [0, 2, 1, 3, 4, 5] rfl
  exact loop13 (128) 0 ls (by omega) (by have h9 := be_gt (n := n) (q := q) (f := f) hz hf; have h8 := be_le (n := n) (q := q) (f := f); exact ⟨h9, by show beF n q f - f + 0 ≤ 128; omega, Nat.le_refl _, Nat.le_refl _⟩) hl
