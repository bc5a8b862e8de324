set_option maxHeartbeats 4000000 in
theorem c_D_askAgain (l : Launch) (d : Nat → Nat) (D : va_G) (a : Nat → Nat) (n : Nat → Nat → Nat) (g : Nat → Nat) (hap : ∀ i j : Nat, i < 52 → j < 52 → a i = a j → i = j) (h1 : 1 ≤ n 14 0) (h2 : n 14 0 ≤ 512) (hw : n 29 (n 14 0 - 1) < 2147483648) (hq4 : n 29 (n 14 0 - 1) / 2 ^ 16 < 4) (hm : n 14 1 < 128) (hkn : n (25 + n 29 (n 14 0 - 1) / 2 ^ 16) (n 14 1) < 4294967296) (hc : n 15 0 ≤ 16) : jEff l d D a n g jy_D_askAgain jb_D_askAgain 1 none { frames := 2, cells := 0, slots := 0, locals := 41 } [.ref (a 14)] (fun v9 n2 g2 => none = v9 ∧ (if unF n = 0 then n else sdF n 0 (n 14 0) 0) = n2 ∧ g = g2) := by
  refine je_V (by decide) (Nat.le_of_ble_eq_true rfl) ?_
  intro p e s m A below meth c ls Q X hP hS hl hQ
  have hl : lv_has ls 1 [(0, .ref (a 14))] := hl
  refine lv_aload_n X.1 X.2.1 jd_D_askAgain_0 rfl (lv_at hl 0 rfl) ?_
  refine j_run (j_mkV X hP (c_D_isNewestUnknown l d D a n g (n 29 (n 14 0 - 1) / 2 ^ 16) h1 h2 hw rfl hq4 hm hkn) jU_b (j_pp X hP) jm_505 jm_504 js_34 jm_4 jm_502 (by decide) rfl rfl (show jOk jy_D_isNewestUnknown 0 by unfold jOk; decide +kernel) (by decide) ⟨rfl, rfl⟩ hl.1 rfl (Nat.le_of_ble_eq_true rfl) ⟨Nat.zero_le _, Nat.zero_le _⟩ jd_D_askAgain_1) ?_
  refine W.eq (g2 := F0 m 4 ls [.int (nI (unF n))]) rfl ?_
  refine kn_eq0 X.1 X.2.1 jd_D_askAgain_4 (tgt := 20) (by decide) (by unfold unF; split <;> omega) (fun h4 => ?_) (fun h4 => ?_)
  · skip
    exact hQ _ _ _ _ _ _ (by first | (rw [if_pos h4]; exact ⟨rfl, rfl, rfl⟩) | (rw [if_neg h4]; exact ⟨rfl, rfl, rfl⟩)) hP hS jd_D_askAgain_20
  · skip
    refine lv_aload_n X.1 X.2.1 jd_D_askAgain_7 rfl (lv_at hl 0 rfl) ?_
    refine jg_D_12_14 X hP jd_D_askAgain_8 ?_
    refine lv_iconst (v := nI 0) X.1 X.2.1 jd_D_askAgain_11 (by decide) ?_
    refine lv_aload_n X.1 X.2.1 jd_D_askAgain_12 rfl (lv_at hl 0 rfl) ?_
    refine jg_D_82_14 X hP jd_D_askAgain_13 ?_
    refine lv_iconst (v := nI 0) X.1 X.2.1 jd_D_askAgain_16 (by decide) ?_
    refine j_rune (j_mkN (host := "KeyDistiller") X hP (c_E_sendF l d D a n g hap 0 (n 14 0) 0 hc _) jU_bs (j_pe X hP) jm_440 jm_439 js_25 jm_5 (by decide +kernel) (by decide) rfl rfl (show jOk jy_E_send 3 by unfold jOk; decide +kernel) (by decide) ⟨rfl, rfl⟩ hl.1 rfl (Nat.le_of_ble_eq_true rfl) ⟨Nat.zero_le _, Nat.zero_le _⟩ jd_D_askAgain_17) hS (fun v17 n17 g17 H locs h17 hP hS => ?_)
    obtain ⟨rfl, rfl, rfl⟩ := h17
    refine W.eq (g2 := F0 m 20 ls []) rfl ?_
    exact hQ _ _ _ _ _ _ (by first | (rw [if_pos h4]; exact ⟨rfl, rfl, rfl⟩) | (rw [if_neg h4]; exact ⟨rfl, rfl, rfl⟩)) hP hS jd_D_askAgain_20

set_option maxHeartbeats 4000000 in
theorem c_D_answer (l : Launch) (d : Nat → Nat) (D : va_G) (a : Nat → Nat) (n : Nat → Nat → Nat) (g : Nat → Nat) (hap : ∀ i j : Nat, i < 52 → j < 52 → a i = a j → i = j) (x : Nat) (hQI : QI n x) (hd2 : n 14 2 < 2147483648) (ho : ∀ p i, p < 4 → i < n 14 5 → n (20 + p) i < 128) (hc : n 15 0 ≤ 16) : jEff l d D a n g jy_D_answer jb_D_answer 3 none { frames := 1, cells := 0, slots := 0, locals := 25 } [.ref (a 14), .int (nI x)] (fun v9 n2 g2 => none = v9 ∧ anF n x = n2 ∧ g = g2) := by
  obtain ⟨q1, q2, q3, q4, q5, q6, q7⟩ := hQI
  refine je_V (by decide) (Nat.le_of_ble_eq_true rfl) ?_
  intro p e s m A below meth c ls Q X hP hS hl hQ
  have hl : lv_has ls 3 [(0, .ref (a 14)), (1, .int (nI x))] := hl
  refine lv_aload_n X.1 X.2.1 jd_D_answer_0 rfl (lv_at hl 0 rfl) ?_
  refine lv_aload_n X.1 X.2.1 jd_D_answer_1 rfl (lv_at hl 0 rfl) ?_
  refine jg_D_92_14 X hP jd_D_answer_2 ?_
  refine lv_iload_n X.1 X.2.1 jd_D_answer_5 rfl (lv_at hl 1 rfl) ?_
  refine j_max X jm_499 (by omega) hl.1 ⟨by decide, Nat.le_of_ble_eq_true rfl⟩ ⟨Nat.zero_le _, Nat.zero_le _⟩ jd_D_answer_6 ?_
  refine jp_D_92_14 X hap hP hS jd_D_answer_9 (fun H locs hP hS => ?_)
  refine lv_aload_n X.1 X.2.1 jd_D_answer_12 rfl (lv_at hl 0 rfl) ?_
  refine jg_D_34_14 X hP jd_D_answer_13 ?_
  refine lv_aload_n X.1 X.2.1 jd_D_answer_16 rfl (lv_at hl 0 rfl) ?_
  refine jg_D_20_14 X hP jd_D_answer_17 ?_
  refine lv_aload_n X.1 X.2.1 jd_D_answer_20 rfl (lv_at hl 0 rfl) ?_
  refine lv_iload_n X.1 X.2.1 jd_D_answer_21 rfl (lv_at hl 1 rfl) ?_
  refine j_run (j_mkV X hP (c_D_passOf l d D a (ku n 14 2 (if n 14 2 < x then x else n 14 2)) g x q1 q2 q3) jU_b (j_pp X hP) jm_201 jm_200 js_2 jm_4 jm_198 (by decide) rfl rfl (show jOk jy_D_passOf 1 by unfold jOk; decide +kernel) (by decide) ⟨rfl, rfl⟩ hl.1 rfl (Nat.le_of_ble_eq_true rfl) ⟨Nat.zero_le _, Nat.zero_le _⟩ jd_D_answer_22) ?_
  refine W.eq (g2 := F0 m 25 ls [.int (nI (n 29 (x - 1) / 2 ^ 16)), .ref (a 19), .ref (a 1)]) rfl ?_
  refine j_aald X hP 19 (n 29 (x - 1) / 2 ^ 16) (by decide) (by omega) jd_D_answer_25 ?_
  refine lv_aload_n X.1 X.2.1 jd_D_answer_26 rfl (lv_at hl 0 rfl) ?_
  refine lv_iload_n X.1 X.2.1 jd_D_answer_27 rfl (lv_at hl 1 rfl) ?_
  refine j_run (j_mkV X hP (c_D_fromOf l d D a (ku n 14 2 (if n 14 2 < x then x else n 14 2)) g x q1 q2 q3) jU_b (j_pp X hP) jm_205 jm_204 js_3 jm_4 jm_202 (by decide) rfl rfl (show jOk jy_D_fromOf 1 by unfold jOk; decide +kernel) (by decide) ⟨rfl, rfl⟩ hl.1 rfl (Nat.le_of_ble_eq_true rfl) ⟨Nat.zero_le _, Nat.zero_le _⟩ jd_D_answer_28) ?_
  refine W.eq (g2 := F0 m 31 ls [.int (nI (n 29 (x - 1) / 2 ^ 8 &&& 255)), .ref (a (20 + (n 29 (x - 1) / 2 ^ 16))), .ref (a 1)]) rfl ?_
  refine lv_aload_n X.1 X.2.1 jd_D_answer_31 rfl (lv_at hl 0 rfl) ?_
  refine lv_iload_n X.1 X.2.1 jd_D_answer_32 rfl (lv_at hl 1 rfl) ?_
  refine j_run (j_mkV X hP (c_D_toOf l d D a (ku n 14 2 (if n 14 2 < x then x else n 14 2)) g x q1 q2 q3) jU_b (j_pp X hP) jm_209 jm_208 js_4 jm_4 jm_206 (by decide) rfl rfl (show jOk jy_D_toOf 1 by unfold jOk; decide +kernel) (by decide) ⟨rfl, rfl⟩ hl.1 rfl (Nat.le_of_ble_eq_true rfl) ⟨Nat.zero_le _, Nat.zero_le _⟩ jd_D_answer_33) ?_
  refine W.eq (g2 := F0 m 36 ls [.int (nI (n 29 (x - 1) &&& 255)), .int (nI (n 29 (x - 1) / 2 ^ 8 &&& 255)), .ref (a (20 + (n 29 (x - 1) / 2 ^ 16))), .ref (a 1)]) rfl ?_
  refine j_run (j_mkN (host := "KeyDistiller") X hP (c_S_parity_1 l d D a (ku n 14 2 (if n 14 2 < x then x else n 14 2)) g (20 + n 29 (x - 1) / 2 ^ 16) (n 29 (x - 1) / 2 ^ 8 &&& 255) (n 29 (x - 1) &&& 255) (by omega) (jI_or q4) q5 (by omega) (fun i hi => by rw [ku_n (by omega)]; exact ho _ _ q4 (by omega))) jU_b (j_pp X hP) jm_456 jm_455 js_29 jm_2 (by decide +kernel) (by decide) rfl rfl (show jOk jy_S_parity 3 by unfold jOk; decide +kernel) (by decide) ⟨rfl, rfl⟩ hl.1 rfl (Nat.le_of_ble_eq_true rfl) ⟨Nat.zero_le _, Nat.zero_le _⟩ jd_D_answer_36) ?_
  refine W.eq (g2 := F0 m 39 ls [.int (nI (parF ((ku n 14 2 (if n 14 2 < x then x else n 14 2)) 6) ((ku n 14 2 (if n 14 2 < x then x else n 14 2)) (20 + n 29 (x - 1) / 2 ^ 16)) (n 29 (x - 1) / 2 ^ 8 &&& 255) ((n 29 (x - 1) &&& 255) - (n 29 (x - 1) / 2 ^ 8 &&& 255))))]) rfl ?_
  have e9 : parF ((ku n 14 2 (if n 14 2 < x then x else n 14 2)) 6) ((ku n 14 2 (if n 14 2 < x then x else n 14 2)) (20 + n 29 (x - 1) / 2 ^ 16)) (n 29 (x - 1) / 2 ^ 8 &&& 255) ((n 29 (x - 1) &&& 255) - (n 29 (x - 1) / 2 ^ 8 &&& 255)) = pnF n x := by unfold pnF; rw [show (ku n 14 2 (if n 14 2 < x then x else n 14 2)) (20 + n 29 (x - 1) / 2 ^ 16) = n (20 + n 29 (x - 1) / 2 ^ 16) from ku_row (by omega)]; rfl
  refine kn_to (y := pnF n x) e9 ?_
  refine lv_istore_n X.1 X.2.1 jd_D_answer_39 rfl hl (by decide) rfl (fun ls hl => ?_)
  have hl : lv_has ls 3 [(2, .int (nI (pnF n x))), (0, .ref (a 14)), (1, .int (nI x))] := hl
  refine lv_aload_n X.1 X.2.1 jd_D_answer_40 rfl (lv_at hl 1 rfl) ?_
  refine jg_D_12_14 X hP jd_D_answer_41 ?_
  refine lv_iconst (v := nI 1) X.1 X.2.1 jd_D_answer_44 (by decide) ?_
  refine lv_iload_n X.1 X.2.1 jd_D_answer_45 rfl (lv_at hl 2 rfl) ?_
  refine lv_iload_n X.1 X.2.1 jd_D_answer_46 rfl (lv_at hl 0 rfl) ?_
  refine j_rune (j_mkN (host := "KeyDistiller") X hP (c_E_sendF l d D a (ku n 14 2 (if n 14 2 < x then x else n 14 2)) g hap 1 x (pnF n x) hc _) jU_bs (j_pe X hP) jm_440 jm_439 js_25 jm_5 (by decide +kernel) (by decide) rfl rfl (show jOk jy_E_send 3 by unfold jOk; decide +kernel) (by decide) ⟨rfl, rfl⟩ hl.1 rfl (Nat.le_of_ble_eq_true rfl) ⟨Nat.zero_le _, Nat.zero_le _⟩ jd_D_answer_47) hS (fun v47 n47 g47 H locs h47 hP hS => ?_)
  obtain ⟨rfl, rfl, rfl⟩ := h47
  refine W.eq (g2 := F0 m 50 ls []) rfl ?_
  exact hQ _ _ _ _ _ _ (⟨rfl, rfl, rfl⟩) hP hS jd_D_answer_50

set_option maxHeartbeats 4000000 in
theorem c_D_deliver (l : Launch) (d : Nat → Nat) (D : va_G) (a : Nat → Nat) (n : Nat → Nat → Nat) (g : Nat → Nat) (hap : ∀ i j : Nat, i < 52 → j < 52 → a i = a j → i = j) (k : Nat) (hk : k < n 15 0) (hc : n 15 0 ≤ 16) (hb : n 16 k < 4294967296 ∧ n 17 k < 4294967296 ∧ n 14 0 < 4294967296) (hA : n 16 k = 0 → QI (tkF n k) (n 17 k)) (hd2 : n 14 2 < 2147483648) (ho : ∀ p i, p < 4 → i < n 14 5 → n (20 + p) i < 128) (h1 : 1 ≤ n 14 0) (h2 : n 14 0 ≤ 512) (hw : n 29 (n 14 0 - 1) < 2147483648) (hq4 : n 29 (n 14 0 - 1) / 2 ^ 16 < 4) (hm : n 14 1 < 128) (hkn : n (25 + n 29 (n 14 0 - 1) / 2 ^ 16) (n 14 1) < 4294967296) (hL : ¬ n 16 k = 0 → n 17 k = n 14 0 → ¬ unF (tkF n k) = 0 → DI (lnF (tkF n k) (n 18 k))) : jEff l d D a n g jy_D_deliver jb_D_deliver 5 none { frames := 5, cells := 0, slots := 0, locals := 119 } [.ref (a 14), .int (nI k)] (fun v9 n2 g2 => none = v9 ∧ dvF n k = n2 ∧ g = g2) := by
  have t14 : (tkF n k) 14 = n 14 := tk_o (by decide)
  have t29 : (tkF n k) 29 = n 29 := tk_o (by decide)
  have tq : ∀ p, p < 4 → (tkF n k) (20 + p) = n (20 + p) := fun p hp => tk_o (by omega)
  have tk : (tkF n k) (25 + n 29 (n 14 0 - 1) / 2 ^ 16) = n (25 + n 29 (n 14 0 - 1) / 2 ^ 16) := tk_o (by omega)
  have t15 : (tkF n k) 15 0 = n 15 0 - 1 := by unfold tkF; rw [ku_s]
  refine je_V (by decide) (Nat.le_of_ble_eq_true rfl) ?_
  intro p e s m A below meth c ls Q X hP hS hl hQ
  have hl : lv_has ls 5 [(0, .ref (a 14)), (1, .int (nI k))] := hl
  refine lv_aload_n X.1 X.2.1 jd_D_deliver_0 rfl (lv_at hl 0 rfl) ?_
  refine jg_D_12_14 X hP jd_D_deliver_1 ?_
  refine jg_D_59_15 X hP jd_D_deliver_4 ?_
  refine lv_iload_n X.1 X.2.1 jd_D_deliver_7 rfl (lv_at hl 1 rfl) ?_
  refine j_ald X hP 16 k (by decide) (show k < 16 from by omega) (by decide) jd_D_deliver_8 ?_
  refine lv_istore_n X.1 X.2.1 jd_D_deliver_9 rfl hl (by decide) rfl (fun ls hl => ?_)
  have hl : lv_has ls 5 [(2, .int (nI (n 16 k))), (0, .ref (a 14)), (1, .int (nI k))] := hl
  refine lv_aload_n X.1 X.2.1 jd_D_deliver_10 rfl (lv_at hl 1 rfl) ?_
  refine jg_D_12_14 X hP jd_D_deliver_11 ?_
  refine jg_D_56_15 X hP jd_D_deliver_14 ?_
  refine lv_iload_n X.1 X.2.1 jd_D_deliver_17 rfl (lv_at hl 2 rfl) ?_
  refine j_ald X hP 17 k (by decide) (show k < 16 from by omega) (by decide) jd_D_deliver_18 ?_
  refine lv_istore_n X.1 X.2.1 jd_D_deliver_19 rfl hl (by decide) rfl (fun ls hl => ?_)
  have hl : lv_has ls 5 [(3, .int (nI (n 17 k))), (2, .int (nI (n 16 k))), (0, .ref (a 14)), (1, .int (nI k))] := hl
  refine lv_aload_n X.1 X.2.1 jd_D_deliver_20 rfl (lv_at hl 2 rfl) ?_
  refine jg_D_12_14 X hP jd_D_deliver_21 ?_
  refine jg_D_66_15 X hP jd_D_deliver_24 ?_
  refine lv_iload_n X.1 X.2.1 jd_D_deliver_27 rfl (lv_at hl 3 rfl) ?_
  refine j_ald X hP 18 k (by decide) (show k < 16 from by omega) (by decide) jd_D_deliver_28 ?_
  refine lv_istore X.1 X.2.1 jd_D_deliver_29 hl (by decide) rfl (fun ls hl => ?_)
  have hl : lv_has ls 5 [(4, .int (nI (n 18 k))), (3, .int (nI (n 17 k))), (2, .int (nI (n 16 k))), (0, .ref (a 14)), (1, .int (nI k))] := hl
  refine lv_aload_n X.1 X.2.1 jd_D_deliver_31 rfl (lv_at hl 3 rfl) ?_
  refine jg_D_12_14 X hP jd_D_deliver_32 ?_
  refine lv_iload_n X.1 X.2.1 jd_D_deliver_35 rfl (lv_at hl 4 rfl) ?_
  refine j_rune (j_mkN (host := "KeyDistiller") X hP (c_E_takeOut l d D a n g hap k hk hc _) jU_bs (j_pe X hP) jm_494 jm_493 js_32 jm_5 (by decide +kernel) (by decide) rfl rfl (show jOk jy_E_takeOut 1 by unfold jOk; decide +kernel) (by decide) ⟨rfl, rfl⟩ hl.1 rfl (Nat.le_of_ble_eq_true rfl) ⟨Nat.zero_le _, Nat.zero_le _⟩ jd_D_deliver_36) hS (fun v36 n36 g36 H locs h36 hP hS => ?_)
  obtain ⟨rfl, rfl, rfl⟩ := h36
  have hP : va_P D jCl (jW d a (tkF n k) g) H := hP
  refine W.eq (g2 := F0 m 39 ls []) rfl ?_
  refine lv_iload_n X.1 X.2.1 jd_D_deliver_39 rfl (lv_at hl 2 rfl) ?_
  refine kn_ne0 X.1 X.2.1 jd_D_deliver_40 (tgt := 51) (by decide) (hb.1) (fun h40 => ?_) (fun h40 => ?_)
  · skip
    refine lv_iload_n X.1 X.2.1 jd_D_deliver_51 rfl (lv_at hl 1 rfl) ?_
    refine lv_aload_n X.1 X.2.1 jd_D_deliver_52 rfl (lv_at hl 3 rfl) ?_
    refine jg_D_82_14 X hP jd_D_deliver_53 ?_
    refine kn_to (y := n 14 0) (by rw [t14]) ?_
    refine kn_cne X.1 X.2.1 jd_D_deliver_56 (tgt := 90) (by decide) (⟨hb.2.1, hb.2.2⟩) (fun h56 => ?_) (fun h56 => ?_)
    · skip
      exact hQ _ _ _ _ _ _ (by unfold dvF; first | (rw [if_pos h40]; exact ⟨rfl, rfl, rfl⟩) | (rw [if_neg h40, if_neg h56]; exact ⟨rfl, rfl, rfl⟩) | (rw [if_neg h40, if_pos h56, if_pos h63]; exact ⟨rfl, rfl, rfl⟩) | (rw [if_neg h40, if_pos h56, if_neg h63]; exact ⟨rfl, rfl, rfl⟩)) hP hS jd_D_deliver_90
    · skip
      refine lv_aload_n X.1 X.2.1 jd_D_deliver_59 rfl (lv_at hl 3 rfl) ?_
      refine j_run (j_mkV X hP (c_D_isNewestUnknown l d D a (tkF n k) g (n 29 (n 14 0 - 1) / 2 ^ 16) (by rw [t14]; exact h1) (by rw [t14]; exact h2) (by rw [t14, t29]; exact hw) (by rw [t14, t29]) hq4 (by rw [t14]; exact hm) (by rw [t14, tk]; exact hkn)) jU_b (j_pp X hP) jm_505 jm_504 js_34 jm_4 jm_502 (by decide) rfl rfl (show jOk jy_D_isNewestUnknown 0 by unfold jOk; decide +kernel) (by decide) ⟨rfl, rfl⟩ hl.1 rfl (Nat.le_of_ble_eq_true rfl) ⟨Nat.zero_le _, Nat.zero_le _⟩ jd_D_deliver_60) ?_
      refine W.eq (g2 := F0 m 63 ls [.int (nI (if (tkF n k) (25 + n 29 (n 14 0 - 1) / 2 ^ 16) ((tkF n k) 14 1) = 4294967295 then 1 else 0))]) rfl ?_
      refine kn_to (y := unF (tkF n k)) (by unfold unF; rw [t14, t29]) ?_
      refine kn_eq0 X.1 X.2.1 jd_D_deliver_63 (tgt := 90) (by decide) (by unfold unF; split <;> omega) (fun h63 => ?_) (fun h63 => ?_)
      · skip
        exact hQ _ _ _ _ _ _ (by unfold dvF; first | (rw [if_pos h40]; exact ⟨rfl, rfl, rfl⟩) | (rw [if_neg h40, if_neg h56]; exact ⟨rfl, rfl, rfl⟩) | (rw [if_neg h40, if_pos h56, if_pos h63]; exact ⟨rfl, rfl, rfl⟩) | (rw [if_neg h40, if_pos h56, if_neg h63]; exact ⟨rfl, rfl, rfl⟩)) hP hS jd_D_deliver_90
      · skip
        refine lv_aload_n X.1 X.2.1 jd_D_deliver_66 rfl (lv_at hl 3 rfl) ?_
        refine jg_D_23_14 X hP jd_D_deliver_67 ?_
        refine lv_aload_n X.1 X.2.1 jd_D_deliver_70 rfl (lv_at hl 3 rfl) ?_
        refine lv_aload_n X.1 X.2.1 jd_D_deliver_71 rfl (lv_at hl 3 rfl) ?_
        refine jg_D_82_14 X hP jd_D_deliver_72 ?_
        refine kn_to (y := n 14 0) (by rw [t14]) ?_
        refine j_run (j_mkV X hP (c_D_passOf l d D a (tkF n k) g (n 14 0) h1 h2 (by rw [t29]; exact hw)) jU_b (j_pp X hP) jm_201 jm_200 js_2 jm_4 jm_198 (by decide) rfl rfl (show jOk jy_D_passOf 1 by unfold jOk; decide +kernel) (by decide) ⟨rfl, rfl⟩ hl.1 rfl (Nat.le_of_ble_eq_true rfl) ⟨Nat.zero_le _, Nat.zero_le _⟩ jd_D_deliver_75) ?_
        refine W.eq (g2 := F0 m 78 ls [.int (nI ((tkF n k) 29 (n 14 0 - 1) / 2 ^ 16)), .ref (a 24)]) rfl ?_
        refine kn_to (y := n 29 (n 14 0 - 1) / 2 ^ 16) (by rw [t29]) ?_
        refine j_aald X hP 24 (n 29 (n 14 0 - 1) / 2 ^ 16) (by decide) (by omega) jd_D_deliver_78 ?_
        refine lv_aload_n X.1 X.2.1 jd_D_deliver_79 rfl (lv_at hl 3 rfl) ?_
        refine jg_D_89_14 X hP jd_D_deliver_80 ?_
        refine kn_to (y := n 14 1) (by rw [t14]) ?_
        refine lv_iload X.1 X.2.1 jd_D_deliver_83 (lv_at hl 0 rfl) ?_
        refine j_ast X hap hP hS (25 + (n 29 (n 14 0 - 1) / 2 ^ 16)) (n 14 1) (n 18 k) (by omega) (by rw [jI_kn hq4]; exact hm) (by rw [jI_kn hq4]; decide) jd_D_deliver_85 (fun H locs hP hS => ?_)
        have hP : va_P D jCl (jW d a (lnF (tkF n k) (n 18 k)) g) H := by unfold lnF; rw [t14, t29]; exact hP
        refine lv_aload_n X.1 X.2.1 jd_D_deliver_86 rfl (lv_at hl 3 rfl) ?_
        refine j_rune (j_mkV X hP (c_D_goOn l d D a (lnF (tkF n k) (n 18 k)) g hap (hL h40 h56 h63) _) jU_bs (j_pe X hP) jm_412 jm_411 js_19 jm_4 jm_409 (by decide) rfl rfl (show jOk jy_D_goOn 0 by unfold jOk; decide +kernel) (by decide) ⟨rfl, rfl⟩ hl.1 rfl (Nat.le_of_ble_eq_true rfl) ⟨Nat.zero_le _, Nat.zero_le _⟩ jd_D_deliver_87) hS (fun v87 n87 g87 H locs h87 hP hS => ?_)
        obtain ⟨rfl, rfl, rfl⟩ := h87
        refine W.eq (g2 := F0 m 90 ls []) rfl ?_
        exact hQ _ _ _ _ _ _ (by unfold dvF; first | (rw [if_pos h40]; exact ⟨rfl, rfl, rfl⟩) | (rw [if_neg h40, if_neg h56]; exact ⟨rfl, rfl, rfl⟩) | (rw [if_neg h40, if_pos h56, if_pos h63]; exact ⟨rfl, rfl, rfl⟩) | (rw [if_neg h40, if_pos h56, if_neg h63]; exact ⟨rfl, rfl, rfl⟩)) hP hS jd_D_deliver_90
  · skip
    refine lv_aload_n X.1 X.2.1 jd_D_deliver_43 rfl (lv_at hl 3 rfl) ?_
    refine lv_iload_n X.1 X.2.1 jd_D_deliver_44 rfl (lv_at hl 1 rfl) ?_
    refine j_rune (j_mkV X hP (c_D_answer l d D a (tkF n k) g hap (n 17 k) (hA h40) (by rw [t14]; exact hd2) (fun p i hp hi => by rw [tq p hp]; rw [t14] at hi; exact ho p i hp hi) (by omega) _) jU_bs (j_pe X hP) jm_498 jm_497 js_33 jm_4 jm_495 (by decide) rfl rfl (show jOk jy_D_answer 1 by unfold jOk; decide +kernel) (by decide) ⟨rfl, rfl⟩ hl.1 rfl (Nat.le_of_ble_eq_true rfl) ⟨Nat.zero_le _, Nat.zero_le _⟩ jd_D_deliver_45) hS (fun v45 n45 g45 H locs h45 hP hS => ?_)
    obtain ⟨rfl, rfl, rfl⟩ := h45
    refine W.eq (g2 := F0 m 48 ls []) rfl ?_
    refine lv_goto X.1 X.2.1 jd_D_deliver_48 (tgt := 90) (by decide) ?_
    exact hQ _ _ _ _ _ _ (by unfold dvF; first | (rw [if_pos h40]; exact ⟨rfl, rfl, rfl⟩) | (rw [if_neg h40, if_neg h56]; exact ⟨rfl, rfl, rfl⟩) | (rw [if_neg h40, if_pos h56, if_pos h63]; exact ⟨rfl, rfl, rfl⟩) | (rw [if_neg h40, if_pos h56, if_neg h63]; exact ⟨rfl, rfl, rfl⟩)) hP hS jd_D_deliver_90
