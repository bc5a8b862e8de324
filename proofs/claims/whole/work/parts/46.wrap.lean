/-! the wrappers. Printed by wip/gen/p46.py -/
set_option maxHeartbeats 4000000 in
theorem w_record_r (l : Launch) (d : Nat → Nat) (D : va_G) (a : Nat → Nat) (n : Nat → Nat → Nat) (g : Nat → Nat) (hap : ∀ i j : Nat, i < 52 → j < 52 → a i = a j → i = j) (p0 p1 p2 p3 p4 p5 : Nat) (x : Nat) (n9 : Nat → Nat → Nat) (g9 : Nat → Nat) (hx : x < 2147483648) (rm : Room) (hR : rm.frames ≤ 6 ∧ rm.locals ≤ 150 ∧ rm.cells = 0 ∧ rm.slots = 0) (hK : jEff l d D a n g jy_K_record jb_K_record 8 (some .int) rm [.ref (a 0), .int (nI p0), .int (nI p1), .int (nI p2), .int (nI p3), .int (nI p4), .int (nI p5)] (fun v9 n2 g2 => some (.int (nI x)) = v9 ∧ n9 = n2 ∧ g9 = g2)) : jWr l d D a n g jy_L_record jb_L_record 9 [(0, 18, 21, 13), (0, 18, 25, 15)] { frames := 7, cells := 1, slots := 6, locals := 200 } [.ref (a 0), .int (nI p0), .int (nI p1), .int (nI p2), .int (nI p3), .int (nI p4), .int (nI p5), .ref (a 51)] (fun v9 n2 g2 => some (.int (nI 0)) = v9 ∧ n9 = n2 ∧ kg g9 2 x = g2) := by
  refine j_wr (by decide) (Nat.le_of_ble_eq_true rfl) ?_
  intro p e s m A below meth c ls Q X htab hJ hNc hP hS hl hQ
  have hl : lv_has ls 9 [(0, .ref (a 0)), (1, .int (nI p0)), (2, .int (nI p1)), (3, .int (nI p2)), (4, .int (nI p3)), (5, .int (nI p4)), (6, .int (nI p5)), (7, .ref (a 51))] := hl
  refine lv_aload X.1 X.2.1 jd_L_record_0 (lv_at hl 7 rfl) ?_
  refine lv_iconst (v := nI 0) X.1 X.2.1 jd_L_record_2 (by decide) ?_
  refine lv_aload_n X.1 X.2.1 jd_L_record_3 rfl (lv_at hl 0 rfl) ?_
  refine lv_iload_n X.1 X.2.1 jd_L_record_4 rfl (lv_at hl 1 rfl) ?_
  refine lv_iload_n X.1 X.2.1 jd_L_record_5 rfl (lv_at hl 2 rfl) ?_
  refine lv_iload_n X.1 X.2.1 jd_L_record_6 rfl (lv_at hl 3 rfl) ?_
  refine lv_iload X.1 X.2.1 jd_L_record_7 (lv_at hl 4 rfl) ?_
  refine lv_iload X.1 X.2.1 jd_L_record_9 (lv_at hl 5 rfl) ?_
  refine lv_iload X.1 X.2.1 jd_L_record_11 (lv_at hl 6 rfl) ?_
  refine j_rune (j_mkV X hP (hK _) jU_bs (j_pe X hP) jm_238 jm_236 jm_237 jm_1 jm_235 (i := 0) (by decide) rfl rfl (show jOk jy_K_record 6 by unfold jOk; decide +kernel) ⟨by show rm.frames + 1 ≤ 7; omega, by show 8 + (8 + 11) + rm.locals ≤ 200; omega⟩ ⟨hR.2.2.1, hR.2.2.2⟩ hl.1 rfl (Nat.le_of_ble_eq_true rfl) ⟨Nat.zero_le _, Nat.zero_le _⟩ jd_L_record_13) hS (fun v9 n8 g8 H locs h9 hP hS => ?_)
  obtain ⟨rfl, rfl, rfl⟩ := h9
  refine W.eq (g2 := F0 m 16 ls [.int (nI x), .int (nI 0), .ref (a 51)]) rfl ?_
  refine lv_i2l (v := lN x) X.1 X.2.1 jd_L_record_16 (nI_l hx) ?_
  refine j_lst X hap hP hS x jd_L_record_17 (fun H locs hP hS => ?_)
  refine lv_goto X.1 X.2.1 jd_L_record_18 (tgt := 29) (by decide) ?_
  refine lv_iconst (v := nI 0) X.1 X.2.1 jd_L_record_29 (by decide) ?_
  refine W.widen (k := 1) (n := 6) (Nat.le_of_ble_eq_true rfl) (Nat.le_of_ble_eq_true rfl) ?_
  exact hQ _ _ _ _ _ _ _ ⟨rfl, rfl, rfl⟩ hP hS jd_L_record_30

set_option maxHeartbeats 4000000 in
theorem w_record_IA (l : Launch) (d : Nat → Nat) (D : va_G) (a : Nat → Nat) (n : Nat → Nat → Nat) (g : Nat → Nat) (p0 p1 p2 p3 p4 p5 : Nat) (rm : Room) (hR : rm.frames ≤ 6 ∧ rm.locals ≤ 150 ∧ rm.cells = 1 ∧ rm.slots = 6) (hT : jThr l d D a n g jy_K_record jb_K_record 8 (some .int) rm [.ref (a 0), .int (nI p0), .int (nI p1), .int (nI p2), .int (nI p3), .int (nI p4), .int (nI p5)] "java/lang/IllegalArgumentException") : jWr l d D a n g jy_L_record jb_L_record 9 [(0, 18, 21, 13), (0, 18, 25, 15)] { frames := 7, cells := 1, slots := 6, locals := 200 } [.ref (a 0), .int (nI p0), .int (nI p1), .int (nI p2), .int (nI p3), .int (nI p4), .int (nI p5), .ref (a 51)] (fun v9 n2 g2 => some (.int (nI 1)) = v9 ∧ n = n2 ∧ g = g2) := by
  refine j_wr (by decide) (Nat.le_of_ble_eq_true rfl) ?_
  intro p e s m A below meth c ls Q X htab hJ hNc hP hS hl hQ
  have hl : lv_has ls 9 [(0, .ref (a 0)), (1, .int (nI p0)), (2, .int (nI p1)), (3, .int (nI p2)), (4, .int (nI p3)), (5, .int (nI p4)), (6, .int (nI p5)), (7, .ref (a 51))] := hl
  refine lv_aload X.1 X.2.1 jd_L_record_0 (lv_at hl 7 rfl) ?_
  refine lv_iconst (v := nI 0) X.1 X.2.1 jd_L_record_2 (by decide) ?_
  refine lv_aload_n X.1 X.2.1 jd_L_record_3 rfl (lv_at hl 0 rfl) ?_
  refine lv_iload_n X.1 X.2.1 jd_L_record_4 rfl (lv_at hl 1 rfl) ?_
  refine lv_iload_n X.1 X.2.1 jd_L_record_5 rfl (lv_at hl 2 rfl) ?_
  refine lv_iload_n X.1 X.2.1 jd_L_record_6 rfl (lv_at hl 3 rfl) ?_
  refine lv_iload X.1 X.2.1 jd_L_record_7 (lv_at hl 4 rfl) ?_
  refine lv_iload X.1 X.2.1 jd_L_record_9 (lv_at hl 5 rfl) ?_
  refine lv_iload X.1 X.2.1 jd_L_record_11 (lv_at hl 6 rfl) ?_
  refine j_thr X hP hS hJ hT jm_238 jm_236 jm_237 jm_1 jm_235 (i := 0) (by decide) rfl rfl (show jOk jy_K_record 6 by unfold jOk; decide +kernel) ⟨by show rm.frames + 1 ≤ 7; omega, by show 8 + (8 + 11) + rm.locals ≤ 200; omega⟩ ⟨hR.2.2.1, hR.2.2.2⟩ hl.1 rfl (Nat.le_of_ble_eq_true rfl) ⟨Nat.le_of_ble_eq_true rfl, Nat.le_of_ble_eq_true rfl⟩ jd_L_record_13 (fun ce q H locs hP hS hce hcv hcl => ?_)
  have hpass : ∀ z ∈ ([] : List ExceptionTableEntry), covers z 13 = false ∨ (z.catchType ≠ 0 ∧ ∃ nm : String, (Cond.classLink "KeyDistillerLaw" z.catchType nm).before A s = true ∧ va_Nc "java/lang/IllegalArgumentException" nm s) := by
    intro z hz
    exact absurd hz List.not_mem_nil
  refine vx_catch (own := "KeyDistillerLaw") (name := "java/lang/IllegalArgumentException") X.2.2.2.2.2.1 [] ⟨0, 18, 21, 13⟩ [⟨0, 18, 25, 15⟩] (by rw [htab]; rfl) hpass rfl (by decide) (X.2.2.2.2.2.2.1 _ jm_233) (va_Nw.use rfl (hJ.1 (Cond.castable "java/lang/IllegalArgumentException" "java/lang/IllegalArgumentException") (by decide))) hce hcv hcl ?_
  refine W.eq (g2 := F0 m 21 ls [.ref q]) rfl ?_
  refine lv_astore X.1 X.2.1 jd_L_record_21 hl (by decide) rfl (fun ls hl => ?_)
  have hl : lv_has ls 9 [(8, .ref q), (0, .ref (a 0)), (1, .int (nI p0)), (2, .int (nI p1)), (3, .int (nI p2)), (4, .int (nI p3)), (5, .int (nI p4)), (6, .int (nI p5)), (7, .ref (a 51))] := hl
  refine lv_iconst (v := nI 1) X.1 X.2.1 jd_L_record_23 (by decide) ?_
  exact hQ _ _ _ _ _ _ _ ⟨rfl, rfl, rfl⟩ hP hS jd_L_record_24

set_option maxHeartbeats 4000000 in
theorem w_record_IS (l : Launch) (d : Nat → Nat) (D : va_G) (a : Nat → Nat) (n : Nat → Nat → Nat) (g : Nat → Nat) (p0 p1 p2 p3 p4 p5 : Nat) (rm : Room) (hR : rm.frames ≤ 6 ∧ rm.locals ≤ 150 ∧ rm.cells = 1 ∧ rm.slots = 6) (hT : jThr l d D a n g jy_K_record jb_K_record 8 (some .int) rm [.ref (a 0), .int (nI p0), .int (nI p1), .int (nI p2), .int (nI p3), .int (nI p4), .int (nI p5)] "java/lang/IllegalStateException") : jWr l d D a n g jy_L_record jb_L_record 9 [(0, 18, 21, 13), (0, 18, 25, 15)] { frames := 7, cells := 1, slots := 6, locals := 200 } [.ref (a 0), .int (nI p0), .int (nI p1), .int (nI p2), .int (nI p3), .int (nI p4), .int (nI p5), .ref (a 51)] (fun v9 n2 g2 => some (.int (nI 2)) = v9 ∧ n = n2 ∧ g = g2) := by
  refine j_wr (by decide) (Nat.le_of_ble_eq_true rfl) ?_
  intro p e s m A below meth c ls Q X htab hJ hNc hP hS hl hQ
  have hl : lv_has ls 9 [(0, .ref (a 0)), (1, .int (nI p0)), (2, .int (nI p1)), (3, .int (nI p2)), (4, .int (nI p3)), (5, .int (nI p4)), (6, .int (nI p5)), (7, .ref (a 51))] := hl
  refine lv_aload X.1 X.2.1 jd_L_record_0 (lv_at hl 7 rfl) ?_
  refine lv_iconst (v := nI 0) X.1 X.2.1 jd_L_record_2 (by decide) ?_
  refine lv_aload_n X.1 X.2.1 jd_L_record_3 rfl (lv_at hl 0 rfl) ?_
  refine lv_iload_n X.1 X.2.1 jd_L_record_4 rfl (lv_at hl 1 rfl) ?_
  refine lv_iload_n X.1 X.2.1 jd_L_record_5 rfl (lv_at hl 2 rfl) ?_
  refine lv_iload_n X.1 X.2.1 jd_L_record_6 rfl (lv_at hl 3 rfl) ?_
  refine lv_iload X.1 X.2.1 jd_L_record_7 (lv_at hl 4 rfl) ?_
  refine lv_iload X.1 X.2.1 jd_L_record_9 (lv_at hl 5 rfl) ?_
  refine lv_iload X.1 X.2.1 jd_L_record_11 (lv_at hl 6 rfl) ?_
  refine j_thr X hP hS hJ hT jm_238 jm_236 jm_237 jm_1 jm_235 (i := 0) (by decide) rfl rfl (show jOk jy_K_record 6 by unfold jOk; decide +kernel) ⟨by show rm.frames + 1 ≤ 7; omega, by show 8 + (8 + 11) + rm.locals ≤ 200; omega⟩ ⟨hR.2.2.1, hR.2.2.2⟩ hl.1 rfl (Nat.le_of_ble_eq_true rfl) ⟨Nat.le_of_ble_eq_true rfl, Nat.le_of_ble_eq_true rfl⟩ jd_L_record_13 (fun ce q H locs hP hS hce hcv hcl => ?_)
  have hpass : ∀ z ∈ ([⟨0, 18, 21, 13⟩] : List ExceptionTableEntry), covers z 13 = false ∨ (z.catchType ≠ 0 ∧ ∃ nm : String, (Cond.classLink "KeyDistillerLaw" z.catchType nm).before A s = true ∧ va_Nc "java/lang/IllegalStateException" nm s) := by
    intro z hz
    simp only [List.mem_cons, List.not_mem_nil, or_false] at hz
    rcases hz with rfl
    · exact Or.inr ⟨by decide, "java/lang/IllegalArgumentException", X.2.2.2.2.2.2.1 _ jm_233, hNc ("java/lang/IllegalStateException", "java/lang/IllegalArgumentException") (by decide)⟩
  refine vx_catch (own := "KeyDistillerLaw") (name := "java/lang/IllegalStateException") X.2.2.2.2.2.1 [⟨0, 18, 21, 13⟩] ⟨0, 18, 25, 15⟩ [] (by rw [htab]; rfl) hpass rfl (by decide) (X.2.2.2.2.2.2.1 _ jm_234) (va_Nw.use rfl (hJ.1 (Cond.castable "java/lang/IllegalStateException" "java/lang/IllegalStateException") (by decide))) hce hcv hcl ?_
  refine W.eq (g2 := F0 m 25 ls [.ref q]) rfl ?_
  refine lv_astore X.1 X.2.1 jd_L_record_25 hl (by decide) rfl (fun ls hl => ?_)
  have hl : lv_has ls 9 [(8, .ref q), (0, .ref (a 0)), (1, .int (nI p0)), (2, .int (nI p1)), (3, .int (nI p2)), (4, .int (nI p3)), (5, .int (nI p4)), (6, .int (nI p5)), (7, .ref (a 51))] := hl
  refine lv_iconst (v := nI 2) X.1 X.2.1 jd_L_record_27 (by decide) ?_
  exact hQ _ _ _ _ _ _ _ ⟨rfl, rfl, rfl⟩ hP hS jd_L_record_28

set_option maxHeartbeats 4000000 in
theorem w_sift_r (l : Launch) (d : Nat → Nat) (D : va_G) (a : Nat → Nat) (n : Nat → Nat → Nat) (g : Nat → Nat) (hap : ∀ i j : Nat, i < 52 → j < 52 → a i = a j → i = j) (x : Nat) (n9 : Nat → Nat → Nat) (g9 : Nat → Nat) (hx : x < 2147483648) (rm : Room) (hR : rm.frames ≤ 6 ∧ rm.locals ≤ 150 ∧ rm.cells = 0 ∧ rm.slots = 0) (hK : jEff l d D a n g jy_K_sift jb_K_sift 3 (some .int) rm [.ref (a 0)] (fun v9 n2 g2 => some (.int (nI x)) = v9 ∧ n9 = n2 ∧ g9 = g2)) : jWr l d D a n g jy_L_sift jb_L_sift 3 [(0, 8, 11, 15)] { frames := 7, cells := 1, slots := 6, locals := 200 } [.ref (a 0), .ref (a 51)] (fun v9 n2 g2 => some (.int (nI 0)) = v9 ∧ n9 = n2 ∧ kg g9 2 x = g2) := by
  refine j_wr (by decide) (Nat.le_of_ble_eq_true rfl) ?_
  intro p e s m A below meth c ls Q X htab hJ hNc hP hS hl hQ
  have hl : lv_has ls 3 [(0, .ref (a 0)), (1, .ref (a 51))] := hl
  refine lv_aload_n X.1 X.2.1 jd_L_sift_0 rfl (lv_at hl 1 rfl) ?_
  refine lv_iconst (v := nI 0) X.1 X.2.1 jd_L_sift_1 (by decide) ?_
  refine lv_aload_n X.1 X.2.1 jd_L_sift_2 rfl (lv_at hl 0 rfl) ?_
  refine j_rune (j_mkV X hP (hK _) jU_bs (j_pe X hP) jm_349 jm_347 jm_348 jm_1 jm_346 (i := 0) (by decide) rfl rfl (show jOk jy_K_sift 0 by unfold jOk; decide +kernel) ⟨by show rm.frames + 1 ≤ 7; omega, by show 8 + (3 + 11) + rm.locals ≤ 200; omega⟩ ⟨hR.2.2.1, hR.2.2.2⟩ hl.1 rfl (Nat.le_of_ble_eq_true rfl) ⟨Nat.zero_le _, Nat.zero_le _⟩ jd_L_sift_3) hS (fun v9 n8 g8 H locs h9 hP hS => ?_)
  obtain ⟨rfl, rfl, rfl⟩ := h9
  refine W.eq (g2 := F0 m 6 ls [.int (nI x), .int (nI 0), .ref (a 51)]) rfl ?_
  refine lv_i2l (v := lN x) X.1 X.2.1 jd_L_sift_6 (nI_l hx) ?_
  refine j_lst X hap hP hS x jd_L_sift_7 (fun H locs hP hS => ?_)
  refine lv_goto X.1 X.2.1 jd_L_sift_8 (tgt := 14) (by decide) ?_
  refine lv_iconst (v := nI 0) X.1 X.2.1 jd_L_sift_14 (by decide) ?_
  refine W.widen (k := 1) (n := 6) (Nat.le_of_ble_eq_true rfl) (Nat.le_of_ble_eq_true rfl) ?_
  exact hQ _ _ _ _ _ _ _ ⟨rfl, rfl, rfl⟩ hP hS jd_L_sift_15

set_option maxHeartbeats 4000000 in
theorem w_sift_IS (l : Launch) (d : Nat → Nat) (D : va_G) (a : Nat → Nat) (n : Nat → Nat → Nat) (g : Nat → Nat) (rm : Room) (hR : rm.frames ≤ 6 ∧ rm.locals ≤ 150 ∧ rm.cells = 1 ∧ rm.slots = 6) (hT : jThr l d D a n g jy_K_sift jb_K_sift 3 (some .int) rm [.ref (a 0)] "java/lang/IllegalStateException") : jWr l d D a n g jy_L_sift jb_L_sift 3 [(0, 8, 11, 15)] { frames := 7, cells := 1, slots := 6, locals := 200 } [.ref (a 0), .ref (a 51)] (fun v9 n2 g2 => some (.int (nI 1)) = v9 ∧ n = n2 ∧ g = g2) := by
  refine j_wr (by decide) (Nat.le_of_ble_eq_true rfl) ?_
  intro p e s m A below meth c ls Q X htab hJ hNc hP hS hl hQ
  have hl : lv_has ls 3 [(0, .ref (a 0)), (1, .ref (a 51))] := hl
  refine lv_aload_n X.1 X.2.1 jd_L_sift_0 rfl (lv_at hl 1 rfl) ?_
  refine lv_iconst (v := nI 0) X.1 X.2.1 jd_L_sift_1 (by decide) ?_
  refine lv_aload_n X.1 X.2.1 jd_L_sift_2 rfl (lv_at hl 0 rfl) ?_
  refine j_thr X hP hS hJ hT jm_349 jm_347 jm_348 jm_1 jm_346 (i := 0) (by decide) rfl rfl (show jOk jy_K_sift 0 by unfold jOk; decide +kernel) ⟨by show rm.frames + 1 ≤ 7; omega, by show 8 + (3 + 11) + rm.locals ≤ 200; omega⟩ ⟨hR.2.2.1, hR.2.2.2⟩ hl.1 rfl (Nat.le_of_ble_eq_true rfl) ⟨Nat.le_of_ble_eq_true rfl, Nat.le_of_ble_eq_true rfl⟩ jd_L_sift_3 (fun ce q H locs hP hS hce hcv hcl => ?_)
  have hpass : ∀ z ∈ ([] : List ExceptionTableEntry), covers z 3 = false ∨ (z.catchType ≠ 0 ∧ ∃ nm : String, (Cond.classLink "KeyDistillerLaw" z.catchType nm).before A s = true ∧ va_Nc "java/lang/IllegalStateException" nm s) := by
    intro z hz
    exact absurd hz List.not_mem_nil
  refine vx_catch (own := "KeyDistillerLaw") (name := "java/lang/IllegalStateException") X.2.2.2.2.2.1 [] ⟨0, 8, 11, 15⟩ [] (by rw [htab]; rfl) hpass rfl (by decide) (X.2.2.2.2.2.2.1 _ jm_234) (va_Nw.use rfl (hJ.1 (Cond.castable "java/lang/IllegalStateException" "java/lang/IllegalStateException") (by decide))) hce hcv hcl ?_
  refine W.eq (g2 := F0 m 11 ls [.ref q]) rfl ?_
  refine lv_astore_n X.1 X.2.1 jd_L_sift_11 rfl hl (by decide) rfl (fun ls hl => ?_)
  have hl : lv_has ls 3 [(2, .ref q), (0, .ref (a 0)), (1, .ref (a 51))] := hl
  refine lv_iconst (v := nI 1) X.1 X.2.1 jd_L_sift_12 (by decide) ?_
  exact hQ _ _ _ _ _ _ _ ⟨rfl, rfl, rfl⟩ hP hS jd_L_sift_13

set_option maxHeartbeats 4000000 in
theorem w_sample_r (l : Launch) (d : Nat → Nat) (D : va_G) (a : Nat → Nat) (n : Nat → Nat → Nat) (g : Nat → Nat) (hap : ∀ i j : Nat, i < 52 → j < 52 → a i = a j → i = j) (p0 p1 : Nat) (x : Nat) (n9 : Nat → Nat → Nat) (g9 : Nat → Nat) (hx : x < 2147483648) (rm : Room) (hR : rm.frames ≤ 6 ∧ rm.locals ≤ 150 ∧ rm.cells = 0 ∧ rm.slots = 0) (hK : jEff l d D a n g jy_K_sample jb_K_sample 7 (some .int) rm [.ref (a 0), .long (lN p0), .int (nI p1)] (fun v9 n2 g2 => some (.int (nI x)) = v9 ∧ n9 = n2 ∧ g9 = g2)) : jWr l d D a n g jy_L_sample jb_L_sample 6 [(0, 11, 14, 15), (0, 11, 18, 13)] { frames := 7, cells := 1, slots := 6, locals := 200 } [.ref (a 0), .long (lN p0), .int (nI p1), .ref (a 51)] (fun v9 n2 g2 => some (.int (nI 0)) = v9 ∧ n9 = n2 ∧ kg g9 2 x = g2) := by
  refine j_wr (by decide) (Nat.le_of_ble_eq_true rfl) ?_
  intro p e s m A below meth c ls Q X htab hJ hNc hP hS hl hQ
  have hl : lv_has ls 6 [(0, .ref (a 0)), (1, .long (lN p0)), (3, .int (nI p1)), (4, .ref (a 51))] := hl
  refine lv_aload X.1 X.2.1 jd_L_sample_0 (lv_at hl 3 rfl) ?_
  refine lv_iconst (v := nI 0) X.1 X.2.1 jd_L_sample_2 (by decide) ?_
  refine lv_aload_n X.1 X.2.1 jd_L_sample_3 rfl (lv_at hl 0 rfl) ?_
  refine lv_lload_n X.1 X.2.1 jd_L_sample_4 rfl (lv_at hl 1 rfl) ?_
  refine lv_iload_n X.1 X.2.1 jd_L_sample_5 rfl (lv_at hl 2 rfl) ?_
  refine j_rune (j_mkV X hP (hK _) jU_bs (j_pe X hP) jm_361 jm_359 jm_360 jm_1 jm_358 (i := 0) (by decide) rfl rfl (show jOk jy_K_sample 2 by unfold jOk; decide +kernel) ⟨by show rm.frames + 1 ≤ 7; omega, by show 8 + (7 + 11) + rm.locals ≤ 200; omega⟩ ⟨hR.2.2.1, hR.2.2.2⟩ hl.1 rfl (Nat.le_of_ble_eq_true rfl) ⟨Nat.zero_le _, Nat.zero_le _⟩ jd_L_sample_6) hS (fun v9 n8 g8 H locs h9 hP hS => ?_)
  obtain ⟨rfl, rfl, rfl⟩ := h9
  refine W.eq (g2 := F0 m 9 ls [.int (nI x), .int (nI 0), .ref (a 51)]) rfl ?_
  refine lv_i2l (v := lN x) X.1 X.2.1 jd_L_sample_9 (nI_l hx) ?_
  refine j_lst X hap hP hS x jd_L_sample_10 (fun H locs hP hS => ?_)
  refine lv_goto X.1 X.2.1 jd_L_sample_11 (tgt := 22) (by decide) ?_
  refine lv_iconst (v := nI 0) X.1 X.2.1 jd_L_sample_22 (by decide) ?_
  refine W.widen (k := 1) (n := 6) (Nat.le_of_ble_eq_true rfl) (Nat.le_of_ble_eq_true rfl) ?_
  exact hQ _ _ _ _ _ _ _ ⟨rfl, rfl, rfl⟩ hP hS jd_L_sample_23

set_option maxHeartbeats 4000000 in
theorem w_sample_IS (l : Launch) (d : Nat → Nat) (D : va_G) (a : Nat → Nat) (n : Nat → Nat → Nat) (g : Nat → Nat) (p0 p1 : Nat) (rm : Room) (hR : rm.frames ≤ 6 ∧ rm.locals ≤ 150 ∧ rm.cells = 1 ∧ rm.slots = 6) (hT : jThr l d D a n g jy_K_sample jb_K_sample 7 (some .int) rm [.ref (a 0), .long (lN p0), .int (nI p1)] "java/lang/IllegalStateException") : jWr l d D a n g jy_L_sample jb_L_sample 6 [(0, 11, 14, 15), (0, 11, 18, 13)] { frames := 7, cells := 1, slots := 6, locals := 200 } [.ref (a 0), .long (lN p0), .int (nI p1), .ref (a 51)] (fun v9 n2 g2 => some (.int (nI 1)) = v9 ∧ n = n2 ∧ g = g2) := by
  refine j_wr (by decide) (Nat.le_of_ble_eq_true rfl) ?_
  intro p e s m A below meth c ls Q X htab hJ hNc hP hS hl hQ
  have hl : lv_has ls 6 [(0, .ref (a 0)), (1, .long (lN p0)), (3, .int (nI p1)), (4, .ref (a 51))] := hl
  refine lv_aload X.1 X.2.1 jd_L_sample_0 (lv_at hl 3 rfl) ?_
  refine lv_iconst (v := nI 0) X.1 X.2.1 jd_L_sample_2 (by decide) ?_
  refine lv_aload_n X.1 X.2.1 jd_L_sample_3 rfl (lv_at hl 0 rfl) ?_
  refine lv_lload_n X.1 X.2.1 jd_L_sample_4 rfl (lv_at hl 1 rfl) ?_
  refine lv_iload_n X.1 X.2.1 jd_L_sample_5 rfl (lv_at hl 2 rfl) ?_
  refine j_thr X hP hS hJ hT jm_361 jm_359 jm_360 jm_1 jm_358 (i := 0) (by decide) rfl rfl (show jOk jy_K_sample 2 by unfold jOk; decide +kernel) ⟨by show rm.frames + 1 ≤ 7; omega, by show 8 + (7 + 11) + rm.locals ≤ 200; omega⟩ ⟨hR.2.2.1, hR.2.2.2⟩ hl.1 rfl (Nat.le_of_ble_eq_true rfl) ⟨Nat.le_of_ble_eq_true rfl, Nat.le_of_ble_eq_true rfl⟩ jd_L_sample_6 (fun ce q H locs hP hS hce hcv hcl => ?_)
  have hpass : ∀ z ∈ ([] : List ExceptionTableEntry), covers z 6 = false ∨ (z.catchType ≠ 0 ∧ ∃ nm : String, (Cond.classLink "KeyDistillerLaw" z.catchType nm).before A s = true ∧ va_Nc "java/lang/IllegalStateException" nm s) := by
    intro z hz
    exact absurd hz List.not_mem_nil
  refine vx_catch (own := "KeyDistillerLaw") (name := "java/lang/IllegalStateException") X.2.2.2.2.2.1 [] ⟨0, 11, 14, 15⟩ [⟨0, 11, 18, 13⟩] (by rw [htab]; rfl) hpass rfl (by decide) (X.2.2.2.2.2.2.1 _ jm_234) (va_Nw.use rfl (hJ.1 (Cond.castable "java/lang/IllegalStateException" "java/lang/IllegalStateException") (by decide))) hce hcv hcl ?_
  refine W.eq (g2 := F0 m 14 ls [.ref q]) rfl ?_
  refine lv_astore X.1 X.2.1 jd_L_sample_14 hl (by decide) rfl (fun ls hl => ?_)
  have hl : lv_has ls 6 [(5, .ref q), (0, .ref (a 0)), (1, .long (lN p0)), (3, .int (nI p1)), (4, .ref (a 51))] := hl
  refine lv_iconst (v := nI 1) X.1 X.2.1 jd_L_sample_16 (by decide) ?_
  exact hQ _ _ _ _ _ _ _ ⟨rfl, rfl, rfl⟩ hP hS jd_L_sample_17

set_option maxHeartbeats 4000000 in
theorem w_sample_IA (l : Launch) (d : Nat → Nat) (D : va_G) (a : Nat → Nat) (n : Nat → Nat → Nat) (g : Nat → Nat) (p0 p1 : Nat) (rm : Room) (hR : rm.frames ≤ 6 ∧ rm.locals ≤ 150 ∧ rm.cells = 1 ∧ rm.slots = 6) (hT : jThr l d D a n g jy_K_sample jb_K_sample 7 (some .int) rm [.ref (a 0), .long (lN p0), .int (nI p1)] "java/lang/IllegalArgumentException") : jWr l d D a n g jy_L_sample jb_L_sample 6 [(0, 11, 14, 15), (0, 11, 18, 13)] { frames := 7, cells := 1, slots := 6, locals := 200 } [.ref (a 0), .long (lN p0), .int (nI p1), .ref (a 51)] (fun v9 n2 g2 => some (.int (nI 2)) = v9 ∧ n = n2 ∧ g = g2) := by
  refine j_wr (by decide) (Nat.le_of_ble_eq_true rfl) ?_
  intro p e s m A below meth c ls Q X htab hJ hNc hP hS hl hQ
  have hl : lv_has ls 6 [(0, .ref (a 0)), (1, .long (lN p0)), (3, .int (nI p1)), (4, .ref (a 51))] := hl
  refine lv_aload X.1 X.2.1 jd_L_sample_0 (lv_at hl 3 rfl) ?_
  refine lv_iconst (v := nI 0) X.1 X.2.1 jd_L_sample_2 (by decide) ?_
  refine lv_aload_n X.1 X.2.1 jd_L_sample_3 rfl (lv_at hl 0 rfl) ?_
  refine lv_lload_n X.1 X.2.1 jd_L_sample_4 rfl (lv_at hl 1 rfl) ?_
  refine lv_iload_n X.1 X.2.1 jd_L_sample_5 rfl (lv_at hl 2 rfl) ?_
  refine j_thr X hP hS hJ hT jm_361 jm_359 jm_360 jm_1 jm_358 (i := 0) (by decide) rfl rfl (show jOk jy_K_sample 2 by unfold jOk; decide +kernel) ⟨by show rm.frames + 1 ≤ 7; omega, by show 8 + (7 + 11) + rm.locals ≤ 200; omega⟩ ⟨hR.2.2.1, hR.2.2.2⟩ hl.1 rfl (Nat.le_of_ble_eq_true rfl) ⟨Nat.le_of_ble_eq_true rfl, Nat.le_of_ble_eq_true rfl⟩ jd_L_sample_6 (fun ce q H locs hP hS hce hcv hcl => ?_)
  have hpass : ∀ z ∈ ([⟨0, 11, 14, 15⟩] : List ExceptionTableEntry), covers z 6 = false ∨ (z.catchType ≠ 0 ∧ ∃ nm : String, (Cond.classLink "KeyDistillerLaw" z.catchType nm).before A s = true ∧ va_Nc "java/lang/IllegalArgumentException" nm s) := by
    intro z hz
    simp only [List.mem_cons, List.not_mem_nil, or_false] at hz
    rcases hz with rfl
    · exact Or.inr ⟨by decide, "java/lang/IllegalStateException", X.2.2.2.2.2.2.1 _ jm_234, hNc ("java/lang/IllegalArgumentException", "java/lang/IllegalStateException") (by decide)⟩
  refine vx_catch (own := "KeyDistillerLaw") (name := "java/lang/IllegalArgumentException") X.2.2.2.2.2.1 [⟨0, 11, 14, 15⟩] ⟨0, 11, 18, 13⟩ [] (by rw [htab]; rfl) hpass rfl (by decide) (X.2.2.2.2.2.2.1 _ jm_233) (va_Nw.use rfl (hJ.1 (Cond.castable "java/lang/IllegalArgumentException" "java/lang/IllegalArgumentException") (by decide))) hce hcv hcl ?_
  refine W.eq (g2 := F0 m 18 ls [.ref q]) rfl ?_
  refine lv_astore X.1 X.2.1 jd_L_sample_18 hl (by decide) rfl (fun ls hl => ?_)
  have hl : lv_has ls 6 [(5, .ref q), (0, .ref (a 0)), (1, .long (lN p0)), (3, .int (nI p1)), (4, .ref (a 51))] := hl
  refine lv_iconst (v := nI 2) X.1 X.2.1 jd_L_sample_20 (by decide) ?_
  exact hQ _ _ _ _ _ _ _ ⟨rfl, rfl, rfl⟩ hP hS jd_L_sample_21

set_option maxHeartbeats 4000000 in
theorem w_start_r (l : Launch) (d : Nat → Nat) (D : va_G) (a : Nat → Nat) (n : Nat → Nat → Nat) (g : Nat → Nat) (hap : ∀ i j : Nat, i < 52 → j < 52 → a i = a j → i = j) (p0 p1 : Nat) (x : Nat) (n9 : Nat → Nat → Nat) (g9 : Nat → Nat) (hx : x < 2147483648) (rm : Room) (hR : rm.frames ≤ 6 ∧ rm.locals ≤ 150 ∧ rm.cells = 0 ∧ rm.slots = 0) (hK : jEff l d D a n g jy_K_start jb_K_start 5 (some .int) rm [.ref (a 0), .int (nI p0), .long (lN p1)] (fun v9 n2 g2 => some (.int (nI x)) = v9 ∧ n9 = n2 ∧ g9 = g2)) : jWr l d D a n g jy_L_start jb_L_start 6 [(0, 11, 14, 15), (0, 11, 18, 13)] { frames := 7, cells := 1, slots := 6, locals := 200 } [.ref (a 0), .int (nI p0), .long (lN p1), .ref (a 51)] (fun v9 n2 g2 => some (.int (nI 0)) = v9 ∧ n9 = n2 ∧ kg g9 2 x = g2) := by
  refine j_wr (by decide) (Nat.le_of_ble_eq_true rfl) ?_
  intro p e s m A below meth c ls Q X htab hJ hNc hP hS hl hQ
  have hl : lv_has ls 6 [(0, .ref (a 0)), (1, .int (nI p0)), (2, .long (lN p1)), (4, .ref (a 51))] := hl
  refine lv_aload X.1 X.2.1 jd_L_start_0 (lv_at hl 3 rfl) ?_
  refine lv_iconst (v := nI 0) X.1 X.2.1 jd_L_start_2 (by decide) ?_
  refine lv_aload_n X.1 X.2.1 jd_L_start_3 rfl (lv_at hl 0 rfl) ?_
  refine lv_iload_n X.1 X.2.1 jd_L_start_4 rfl (lv_at hl 1 rfl) ?_
  refine lv_lload_n X.1 X.2.1 jd_L_start_5 rfl (lv_at hl 2 rfl) ?_
  refine j_rune (j_mkV X hP (hK _) jU_bs (j_pe X hP) jm_401 jm_399 jm_400 jm_1 jm_398 (i := 0) (by decide) rfl rfl (show jOk jy_K_start 2 by unfold jOk; decide +kernel) ⟨by show rm.frames + 1 ≤ 7; omega, by show 8 + (5 + 11) + rm.locals ≤ 200; omega⟩ ⟨hR.2.2.1, hR.2.2.2⟩ hl.1 rfl (Nat.le_of_ble_eq_true rfl) ⟨Nat.zero_le _, Nat.zero_le _⟩ jd_L_start_6) hS (fun v9 n8 g8 H locs h9 hP hS => ?_)
  obtain ⟨rfl, rfl, rfl⟩ := h9
  refine W.eq (g2 := F0 m 9 ls [.int (nI x), .int (nI 0), .ref (a 51)]) rfl ?_
  refine lv_i2l (v := lN x) X.1 X.2.1 jd_L_start_9 (nI_l hx) ?_
  refine j_lst X hap hP hS x jd_L_start_10 (fun H locs hP hS => ?_)
  refine lv_goto X.1 X.2.1 jd_L_start_11 (tgt := 22) (by decide) ?_
  refine lv_iconst (v := nI 0) X.1 X.2.1 jd_L_start_22 (by decide) ?_
  refine W.widen (k := 1) (n := 6) (Nat.le_of_ble_eq_true rfl) (Nat.le_of_ble_eq_true rfl) ?_
  exact hQ _ _ _ _ _ _ _ ⟨rfl, rfl, rfl⟩ hP hS jd_L_start_23

set_option maxHeartbeats 4000000 in
theorem w_start_IS (l : Launch) (d : Nat → Nat) (D : va_G) (a : Nat → Nat) (n : Nat → Nat → Nat) (g : Nat → Nat) (p0 p1 : Nat) (rm : Room) (hR : rm.frames ≤ 6 ∧ rm.locals ≤ 150 ∧ rm.cells = 1 ∧ rm.slots = 6) (hT : jThr l d D a n g jy_K_start jb_K_start 5 (some .int) rm [.ref (a 0), .int (nI p0), .long (lN p1)] "java/lang/IllegalStateException") : jWr l d D a n g jy_L_start jb_L_start 6 [(0, 11, 14, 15), (0, 11, 18, 13)] { frames := 7, cells := 1, slots := 6, locals := 200 } [.ref (a 0), .int (nI p0), .long (lN p1), .ref (a 51)] (fun v9 n2 g2 => some (.int (nI 1)) = v9 ∧ n = n2 ∧ g = g2) := by
  refine j_wr (by decide) (Nat.le_of_ble_eq_true rfl) ?_
  intro p e s m A below meth c ls Q X htab hJ hNc hP hS hl hQ
  have hl : lv_has ls 6 [(0, .ref (a 0)), (1, .int (nI p0)), (2, .long (lN p1)), (4, .ref (a 51))] := hl
  refine lv_aload X.1 X.2.1 jd_L_start_0 (lv_at hl 3 rfl) ?_
  refine lv_iconst (v := nI 0) X.1 X.2.1 jd_L_start_2 (by decide) ?_
  refine lv_aload_n X.1 X.2.1 jd_L_start_3 rfl (lv_at hl 0 rfl) ?_
  refine lv_iload_n X.1 X.2.1 jd_L_start_4 rfl (lv_at hl 1 rfl) ?_
  refine lv_lload_n X.1 X.2.1 jd_L_start_5 rfl (lv_at hl 2 rfl) ?_
  refine j_thr X hP hS hJ hT jm_401 jm_399 jm_400 jm_1 jm_398 (i := 0) (by decide) rfl rfl (show jOk jy_K_start 2 by unfold jOk; decide +kernel) ⟨by show rm.frames + 1 ≤ 7; omega, by show 8 + (5 + 11) + rm.locals ≤ 200; omega⟩ ⟨hR.2.2.1, hR.2.2.2⟩ hl.1 rfl (Nat.le_of_ble_eq_true rfl) ⟨Nat.le_of_ble_eq_true rfl, Nat.le_of_ble_eq_true rfl⟩ jd_L_start_6 (fun ce q H locs hP hS hce hcv hcl => ?_)
  have hpass : ∀ z ∈ ([] : List ExceptionTableEntry), covers z 6 = false ∨ (z.catchType ≠ 0 ∧ ∃ nm : String, (Cond.classLink "KeyDistillerLaw" z.catchType nm).before A s = true ∧ va_Nc "java/lang/IllegalStateException" nm s) := by
    intro z hz
    exact absurd hz List.not_mem_nil
  refine vx_catch (own := "KeyDistillerLaw") (name := "java/lang/IllegalStateException") X.2.2.2.2.2.1 [] ⟨0, 11, 14, 15⟩ [⟨0, 11, 18, 13⟩] (by rw [htab]; rfl) hpass rfl (by decide) (X.2.2.2.2.2.2.1 _ jm_234) (va_Nw.use rfl (hJ.1 (Cond.castable "java/lang/IllegalStateException" "java/lang/IllegalStateException") (by decide))) hce hcv hcl ?_
  refine W.eq (g2 := F0 m 14 ls [.ref q]) rfl ?_
  refine lv_astore X.1 X.2.1 jd_L_start_14 hl (by decide) rfl (fun ls hl => ?_)
  have hl : lv_has ls 6 [(5, .ref q), (0, .ref (a 0)), (1, .int (nI p0)), (2, .long (lN p1)), (4, .ref (a 51))] := hl
  refine lv_iconst (v := nI 1) X.1 X.2.1 jd_L_start_16 (by decide) ?_
  exact hQ _ _ _ _ _ _ _ ⟨rfl, rfl, rfl⟩ hP hS jd_L_start_17

set_option maxHeartbeats 4000000 in
theorem w_start_IA (l : Launch) (d : Nat → Nat) (D : va_G) (a : Nat → Nat) (n : Nat → Nat → Nat) (g : Nat → Nat) (p0 p1 : Nat) (rm : Room) (hR : rm.frames ≤ 6 ∧ rm.locals ≤ 150 ∧ rm.cells = 1 ∧ rm.slots = 6) (hT : jThr l d D a n g jy_K_start jb_K_start 5 (some .int) rm [.ref (a 0), .int (nI p0), .long (lN p1)] "java/lang/IllegalArgumentException") : jWr l d D a n g jy_L_start jb_L_start 6 [(0, 11, 14, 15), (0, 11, 18, 13)] { frames := 7, cells := 1, slots := 6, locals := 200 } [.ref (a 0), .int (nI p0), .long (lN p1), .ref (a 51)] (fun v9 n2 g2 => some (.int (nI 2)) = v9 ∧ n = n2 ∧ g = g2) := by
  refine j_wr (by decide) (Nat.le_of_ble_eq_true rfl) ?_
  intro p e s m A below meth c ls Q X htab hJ hNc hP hS hl hQ
  have hl : lv_has ls 6 [(0, .ref (a 0)), (1, .int (nI p0)), (2, .long (lN p1)), (4, .ref (a 51))] := hl
  refine lv_aload X.1 X.2.1 jd_L_start_0 (lv_at hl 3 rfl) ?_
  refine lv_iconst (v := nI 0) X.1 X.2.1 jd_L_start_2 (by decide) ?_
  refine lv_aload_n X.1 X.2.1 jd_L_start_3 rfl (lv_at hl 0 rfl) ?_
  refine lv_iload_n X.1 X.2.1 jd_L_start_4 rfl (lv_at hl 1 rfl) ?_
  refine lv_lload_n X.1 X.2.1 jd_L_start_5 rfl (lv_at hl 2 rfl) ?_
  refine j_thr X hP hS hJ hT jm_401 jm_399 jm_400 jm_1 jm_398 (i := 0) (by decide) rfl rfl (show jOk jy_K_start 2 by unfold jOk; decide +kernel) ⟨by show rm.frames + 1 ≤ 7; omega, by show 8 + (5 + 11) + rm.locals ≤ 200; omega⟩ ⟨hR.2.2.1, hR.2.2.2⟩ hl.1 rfl (Nat.le_of_ble_eq_true rfl) ⟨Nat.le_of_ble_eq_true rfl, Nat.le_of_ble_eq_true rfl⟩ jd_L_start_6 (fun ce q H locs hP hS hce hcv hcl => ?_)
  have hpass : ∀ z ∈ ([⟨0, 11, 14, 15⟩] : List ExceptionTableEntry), covers z 6 = false ∨ (z.catchType ≠ 0 ∧ ∃ nm : String, (Cond.classLink "KeyDistillerLaw" z.catchType nm).before A s = true ∧ va_Nc "java/lang/IllegalArgumentException" nm s) := by
    intro z hz
    simp only [List.mem_cons, List.not_mem_nil, or_false] at hz
    rcases hz with rfl
    · exact Or.inr ⟨by decide, "java/lang/IllegalStateException", X.2.2.2.2.2.2.1 _ jm_234, hNc ("java/lang/IllegalArgumentException", "java/lang/IllegalStateException") (by decide)⟩
  refine vx_catch (own := "KeyDistillerLaw") (name := "java/lang/IllegalArgumentException") X.2.2.2.2.2.1 [⟨0, 11, 14, 15⟩] ⟨0, 11, 18, 13⟩ [] (by rw [htab]; rfl) hpass rfl (by decide) (X.2.2.2.2.2.2.1 _ jm_233) (va_Nw.use rfl (hJ.1 (Cond.castable "java/lang/IllegalArgumentException" "java/lang/IllegalArgumentException") (by decide))) hce hcv hcl ?_
  refine W.eq (g2 := F0 m 18 ls [.ref q]) rfl ?_
  refine lv_astore X.1 X.2.1 jd_L_start_18 hl (by decide) rfl (fun ls hl => ?_)
  have hl : lv_has ls 6 [(5, .ref q), (0, .ref (a 0)), (1, .int (nI p0)), (2, .long (lN p1)), (4, .ref (a 51))] := hl
  refine lv_iconst (v := nI 2) X.1 X.2.1 jd_L_start_20 (by decide) ?_
  exact hQ _ _ _ _ _ _ _ ⟨rfl, rfl, rfl⟩ hP hS jd_L_start_21

set_option maxHeartbeats 4000000 in
theorem w_letter_r (l : Launch) (d : Nat → Nat) (D : va_G) (a : Nat → Nat) (n : Nat → Nat → Nat) (g : Nat → Nat) (hap : ∀ i j : Nat, i < 52 → j < 52 → a i = a j → i = j) (p0 p1 : Nat) (x : Nat) (n9 : Nat → Nat → Nat) (g9 : Nat → Nat) (hx : x < 2147483648) (rm : Room) (hR : rm.frames ≤ 6 ∧ rm.locals ≤ 150 ∧ rm.cells = 0 ∧ rm.slots = 0) (hK : jEff l d D a n g jy_K_letter jb_K_letter 4 (some .int) rm [.ref (a 0), .int (nI p0), .int (nI p1)] (fun v9 n2 g2 => some (.int (nI x)) = v9 ∧ n9 = n2 ∧ g9 = g2)) : jWr l d D a n g jy_L_letter jb_L_letter 5 [(0, 10, 13, 13), (0, 10, 17, 33), (0, 10, 21, 15)] { frames := 7, cells := 1, slots := 6, locals := 200 } [.ref (a 0), .int (nI p0), .int (nI p1), .ref (a 51)] (fun v9 n2 g2 => some (.int (nI 0)) = v9 ∧ n9 = n2 ∧ kg g9 2 x = g2) := by
  refine j_wr (by decide) (Nat.le_of_ble_eq_true rfl) ?_
  intro p e s m A below meth c ls Q X htab hJ hNc hP hS hl hQ
  have hl : lv_has ls 5 [(0, .ref (a 0)), (1, .int (nI p0)), (2, .int (nI p1)), (3, .ref (a 51))] := hl
  refine lv_aload_n X.1 X.2.1 jd_L_letter_0 rfl (lv_at hl 3 rfl) ?_
  refine lv_iconst (v := nI 0) X.1 X.2.1 jd_L_letter_1 (by decide) ?_
  refine lv_aload_n X.1 X.2.1 jd_L_letter_2 rfl (lv_at hl 0 rfl) ?_
  refine lv_iload_n X.1 X.2.1 jd_L_letter_3 rfl (lv_at hl 1 rfl) ?_
  refine lv_iload_n X.1 X.2.1 jd_L_letter_4 rfl (lv_at hl 2 rfl) ?_
  refine j_rune (j_mkV X hP (hK _) jU_bs (j_pe X hP) jm_468 jm_466 jm_467 jm_1 jm_465 (i := 0) (by decide) rfl rfl (show jOk jy_K_letter 2 by unfold jOk; decide +kernel) ⟨by show rm.frames + 1 ≤ 7; omega, by show 8 + (4 + 11) + rm.locals ≤ 200; omega⟩ ⟨hR.2.2.1, hR.2.2.2⟩ hl.1 rfl (Nat.le_of_ble_eq_true rfl) ⟨Nat.zero_le _, Nat.zero_le _⟩ jd_L_letter_5) hS (fun v9 n8 g8 H locs h9 hP hS => ?_)
  obtain ⟨rfl, rfl, rfl⟩ := h9
  refine W.eq (g2 := F0 m 8 ls [.int (nI x), .int (nI 0), .ref (a 51)]) rfl ?_
  refine lv_i2l (v := lN x) X.1 X.2.1 jd_L_letter_8 (nI_l hx) ?_
  refine j_lst X hap hP hS x jd_L_letter_9 (fun H locs hP hS => ?_)
  refine lv_goto X.1 X.2.1 jd_L_letter_10 (tgt := 25) (by decide) ?_
  refine lv_iconst (v := nI 0) X.1 X.2.1 jd_L_letter_25 (by decide) ?_
  refine W.widen (k := 1) (n := 6) (Nat.le_of_ble_eq_true rfl) (Nat.le_of_ble_eq_true rfl) ?_
  exact hQ _ _ _ _ _ _ _ ⟨rfl, rfl, rfl⟩ hP hS jd_L_letter_26

set_option maxHeartbeats 4000000 in
theorem w_letter_IA (l : Launch) (d : Nat → Nat) (D : va_G) (a : Nat → Nat) (n : Nat → Nat → Nat) (g : Nat → Nat) (p0 p1 : Nat) (rm : Room) (hR : rm.frames ≤ 6 ∧ rm.locals ≤ 150 ∧ rm.cells = 1 ∧ rm.slots = 6) (hT : jThr l d D a n g jy_K_letter jb_K_letter 4 (some .int) rm [.ref (a 0), .int (nI p0), .int (nI p1)] "java/lang/IllegalArgumentException") : jWr l d D a n g jy_L_letter jb_L_letter 5 [(0, 10, 13, 13), (0, 10, 17, 33), (0, 10, 21, 15)] { frames := 7, cells := 1, slots := 6, locals := 200 } [.ref (a 0), .int (nI p0), .int (nI p1), .ref (a 51)] (fun v9 n2 g2 => some (.int (nI 1)) = v9 ∧ n = n2 ∧ g = g2) := by
  refine j_wr (by decide) (Nat.le_of_ble_eq_true rfl) ?_
  intro p e s m A below meth c ls Q X htab hJ hNc hP hS hl hQ
  have hl : lv_has ls 5 [(0, .ref (a 0)), (1, .int (nI p0)), (2, .int (nI p1)), (3, .ref (a 51))] := hl
  refine lv_aload_n X.1 X.2.1 jd_L_letter_0 rfl (lv_at hl 3 rfl) ?_
  refine lv_iconst (v := nI 0) X.1 X.2.1 jd_L_letter_1 (by decide) ?_
  refine lv_aload_n X.1 X.2.1 jd_L_letter_2 rfl (lv_at hl 0 rfl) ?_
  refine lv_iload_n X.1 X.2.1 jd_L_letter_3 rfl (lv_at hl 1 rfl) ?_
  refine lv_iload_n X.1 X.2.1 jd_L_letter_4 rfl (lv_at hl 2 rfl) ?_
  refine j_thr X hP hS hJ hT jm_468 jm_466 jm_467 jm_1 jm_465 (i := 0) (by decide) rfl rfl (show jOk jy_K_letter 2 by unfold jOk; decide +kernel) ⟨by show rm.frames + 1 ≤ 7; omega, by show 8 + (4 + 11) + rm.locals ≤ 200; omega⟩ ⟨hR.2.2.1, hR.2.2.2⟩ hl.1 rfl (Nat.le_of_ble_eq_true rfl) ⟨Nat.le_of_ble_eq_true rfl, Nat.le_of_ble_eq_true rfl⟩ jd_L_letter_5 (fun ce q H locs hP hS hce hcv hcl => ?_)
  have hpass : ∀ z ∈ ([] : List ExceptionTableEntry), covers z 5 = false ∨ (z.catchType ≠ 0 ∧ ∃ nm : String, (Cond.classLink "KeyDistillerLaw" z.catchType nm).before A s = true ∧ va_Nc "java/lang/IllegalArgumentException" nm s) := by
    intro z hz
    exact absurd hz List.not_mem_nil
  refine vx_catch (own := "KeyDistillerLaw") (name := "java/lang/IllegalArgumentException") X.2.2.2.2.2.1 [] ⟨0, 10, 13, 13⟩ [⟨0, 10, 17, 33⟩, ⟨0, 10, 21, 15⟩] (by rw [htab]; rfl) hpass rfl (by decide) (X.2.2.2.2.2.2.1 _ jm_233) (va_Nw.use rfl (hJ.1 (Cond.castable "java/lang/IllegalArgumentException" "java/lang/IllegalArgumentException") (by decide))) hce hcv hcl ?_
  refine W.eq (g2 := F0 m 13 ls [.ref q]) rfl ?_
  refine lv_astore X.1 X.2.1 jd_L_letter_13 hl (by decide) rfl (fun ls hl => ?_)
  have hl : lv_has ls 5 [(4, .ref q), (0, .ref (a 0)), (1, .int (nI p0)), (2, .int (nI p1)), (3, .ref (a 51))] := hl
  refine lv_iconst (v := nI 1) X.1 X.2.1 jd_L_letter_15 (by decide) ?_
  exact hQ _ _ _ _ _ _ _ ⟨rfl, rfl, rfl⟩ hP hS jd_L_letter_16

set_option maxHeartbeats 4000000 in
theorem w_letter_IO (l : Launch) (d : Nat → Nat) (D : va_G) (a : Nat → Nat) (n : Nat → Nat → Nat) (g : Nat → Nat) (p0 p1 : Nat) (rm : Room) (hR : rm.frames ≤ 6 ∧ rm.locals ≤ 150 ∧ rm.cells = 1 ∧ rm.slots = 6) (hT : jThr l d D a n g jy_K_letter jb_K_letter 4 (some .int) rm [.ref (a 0), .int (nI p0), .int (nI p1)] "java/lang/IndexOutOfBoundsException") : jWr l d D a n g jy_L_letter jb_L_letter 5 [(0, 10, 13, 13), (0, 10, 17, 33), (0, 10, 21, 15)] { frames := 7, cells := 1, slots := 6, locals := 200 } [.ref (a 0), .int (nI p0), .int (nI p1), .ref (a 51)] (fun v9 n2 g2 => some (.int (nI 2)) = v9 ∧ n = n2 ∧ g = g2) := by
  refine j_wr (by decide) (Nat.le_of_ble_eq_true rfl) ?_
  intro p e s m A below meth c ls Q X htab hJ hNc hP hS hl hQ
  have hl : lv_has ls 5 [(0, .ref (a 0)), (1, .int (nI p0)), (2, .int (nI p1)), (3, .ref (a 51))] := hl
  refine lv_aload_n X.1 X.2.1 jd_L_letter_0 rfl (lv_at hl 3 rfl) ?_
  refine lv_iconst (v := nI 0) X.1 X.2.1 jd_L_letter_1 (by decide) ?_
  refine lv_aload_n X.1 X.2.1 jd_L_letter_2 rfl (lv_at hl 0 rfl) ?_
  refine lv_iload_n X.1 X.2.1 jd_L_letter_3 rfl (lv_at hl 1 rfl) ?_
  refine lv_iload_n X.1 X.2.1 jd_L_letter_4 rfl (lv_at hl 2 rfl) ?_
  refine j_thr X hP hS hJ hT jm_468 jm_466 jm_467 jm_1 jm_465 (i := 0) (by decide) rfl rfl (show jOk jy_K_letter 2 by unfold jOk; decide +kernel) ⟨by show rm.frames + 1 ≤ 7; omega, by show 8 + (4 + 11) + rm.locals ≤ 200; omega⟩ ⟨hR.2.2.1, hR.2.2.2⟩ hl.1 rfl (Nat.le_of_ble_eq_true rfl) ⟨Nat.le_of_ble_eq_true rfl, Nat.le_of_ble_eq_true rfl⟩ jd_L_letter_5 (fun ce q H locs hP hS hce hcv hcl => ?_)
  have hpass : ∀ z ∈ ([⟨0, 10, 13, 13⟩] : List ExceptionTableEntry), covers z 5 = false ∨ (z.catchType ≠ 0 ∧ ∃ nm : String, (Cond.classLink "KeyDistillerLaw" z.catchType nm).before A s = true ∧ va_Nc "java/lang/IndexOutOfBoundsException" nm s) := by
    intro z hz
    simp only [List.mem_cons, List.not_mem_nil, or_false] at hz
    rcases hz with rfl
    · exact Or.inr ⟨by decide, "java/lang/IllegalArgumentException", X.2.2.2.2.2.2.1 _ jm_233, hNc ("java/lang/IndexOutOfBoundsException", "java/lang/IllegalArgumentException") (by decide)⟩
  refine vx_catch (own := "KeyDistillerLaw") (name := "java/lang/IndexOutOfBoundsException") X.2.2.2.2.2.1 [⟨0, 10, 13, 13⟩] ⟨0, 10, 17, 33⟩ [⟨0, 10, 21, 15⟩] (by rw [htab]; rfl) hpass rfl (by decide) (X.2.2.2.2.2.2.1 _ jm_464) (va_Nw.use rfl (hJ.1 (Cond.castable "java/lang/IndexOutOfBoundsException" "java/lang/IndexOutOfBoundsException") (by decide))) hce hcv hcl ?_
  refine W.eq (g2 := F0 m 17 ls [.ref q]) rfl ?_
  refine lv_astore X.1 X.2.1 jd_L_letter_17 hl (by decide) rfl (fun ls hl => ?_)
  have hl : lv_has ls 5 [(4, .ref q), (0, .ref (a 0)), (1, .int (nI p0)), (2, .int (nI p1)), (3, .ref (a 51))] := hl
  refine lv_iconst (v := nI 2) X.1 X.2.1 jd_L_letter_19 (by decide) ?_
  exact hQ _ _ _ _ _ _ _ ⟨rfl, rfl, rfl⟩ hP hS jd_L_letter_20

set_option maxHeartbeats 4000000 in
theorem w_letter_IS (l : Launch) (d : Nat → Nat) (D : va_G) (a : Nat → Nat) (n : Nat → Nat → Nat) (g : Nat → Nat) (p0 p1 : Nat) (rm : Room) (hR : rm.frames ≤ 6 ∧ rm.locals ≤ 150 ∧ rm.cells = 1 ∧ rm.slots = 6) (hT : jThr l d D a n g jy_K_letter jb_K_letter 4 (some .int) rm [.ref (a 0), .int (nI p0), .int (nI p1)] "java/lang/IllegalStateException") : jWr l d D a n g jy_L_letter jb_L_letter 5 [(0, 10, 13, 13), (0, 10, 17, 33), (0, 10, 21, 15)] { frames := 7, cells := 1, slots := 6, locals := 200 } [.ref (a 0), .int (nI p0), .int (nI p1), .ref (a 51)] (fun v9 n2 g2 => some (.int (nI 3)) = v9 ∧ n = n2 ∧ g = g2) := by
  refine j_wr (by decide) (Nat.le_of_ble_eq_true rfl) ?_
  intro p e s m A below meth c ls Q X htab hJ hNc hP hS hl hQ
  have hl : lv_has ls 5 [(0, .ref (a 0)), (1, .int (nI p0)), (2, .int (nI p1)), (3, .ref (a 51))] := hl
  refine lv_aload_n X.1 X.2.1 jd_L_letter_0 rfl (lv_at hl 3 rfl) ?_
  refine lv_iconst (v := nI 0) X.1 X.2.1 jd_L_letter_1 (by decide) ?_
  refine lv_aload_n X.1 X.2.1 jd_L_letter_2 rfl (lv_at hl 0 rfl) ?_
  refine lv_iload_n X.1 X.2.1 jd_L_letter_3 rfl (lv_at hl 1 rfl) ?_
  refine lv_iload_n X.1 X.2.1 jd_L_letter_4 rfl (lv_at hl 2 rfl) ?_
  refine j_thr X hP hS hJ hT jm_468 jm_466 jm_467 jm_1 jm_465 (i := 0) (by decide) rfl rfl (show jOk jy_K_letter 2 by unfold jOk; decide +kernel) ⟨by show rm.frames + 1 ≤ 7; omega, by show 8 + (4 + 11) + rm.locals ≤ 200; omega⟩ ⟨hR.2.2.1, hR.2.2.2⟩ hl.1 rfl (Nat.le_of_ble_eq_true rfl) ⟨Nat.le_of_ble_eq_true rfl, Nat.le_of_ble_eq_true rfl⟩ jd_L_letter_5 (fun ce q H locs hP hS hce hcv hcl => ?_)
  have hpass : ∀ z ∈ ([⟨0, 10, 13, 13⟩, ⟨0, 10, 17, 33⟩] : List ExceptionTableEntry), covers z 5 = false ∨ (z.catchType ≠ 0 ∧ ∃ nm : String, (Cond.classLink "KeyDistillerLaw" z.catchType nm).before A s = true ∧ va_Nc "java/lang/IllegalStateException" nm s) := by
    intro z hz
    simp only [List.mem_cons, List.not_mem_nil, or_false] at hz
    rcases hz with rfl | rfl
    · exact Or.inr ⟨by decide, "java/lang/IllegalArgumentException", X.2.2.2.2.2.2.1 _ jm_233, hNc ("java/lang/IllegalStateException", "java/lang/IllegalArgumentException") (by decide)⟩
    · exact Or.inr ⟨by decide, "java/lang/IndexOutOfBoundsException", X.2.2.2.2.2.2.1 _ jm_464, hNc ("java/lang/IllegalStateException", "java/lang/IndexOutOfBoundsException") (by decide)⟩
  refine vx_catch (own := "KeyDistillerLaw") (name := "java/lang/IllegalStateException") X.2.2.2.2.2.1 [⟨0, 10, 13, 13⟩, ⟨0, 10, 17, 33⟩] ⟨0, 10, 21, 15⟩ [] (by rw [htab]; rfl) hpass rfl (by decide) (X.2.2.2.2.2.2.1 _ jm_234) (va_Nw.use rfl (hJ.1 (Cond.castable "java/lang/IllegalStateException" "java/lang/IllegalStateException") (by decide))) hce hcv hcl ?_
  refine W.eq (g2 := F0 m 21 ls [.ref q]) rfl ?_
  refine lv_astore X.1 X.2.1 jd_L_letter_21 hl (by decide) rfl (fun ls hl => ?_)
  have hl : lv_has ls 5 [(4, .ref q), (0, .ref (a 0)), (1, .int (nI p0)), (2, .int (nI p1)), (3, .ref (a 51))] := hl
  refine lv_iconst (v := nI 3) X.1 X.2.1 jd_L_letter_23 (by decide) ?_
  exact hQ _ _ _ _ _ _ _ ⟨rfl, rfl, rfl⟩ hP hS jd_L_letter_24

set_option maxHeartbeats 4000000 in
theorem w_tick_r (l : Launch) (d : Nat → Nat) (D : va_G) (a : Nat → Nat) (n : Nat → Nat → Nat) (g : Nat → Nat) (hap : ∀ i j : Nat, i < 52 → j < 52 → a i = a j → i = j) (x : Nat) (n9 : Nat → Nat → Nat) (g9 : Nat → Nat) (hx : x < 2147483648) (rm : Room) (hR : rm.frames ≤ 6 ∧ rm.locals ≤ 150 ∧ rm.cells = 0 ∧ rm.slots = 0) (hK : jEff l d D a n g jy_K_tick jb_K_tick 1 (some .int) rm [.ref (a 0)] (fun v9 n2 g2 => some (.int (nI x)) = v9 ∧ n9 = n2 ∧ g9 = g2)) : jWr l d D a n g jy_L_tick jb_L_tick 3 [(0, 8, 11, 15)] { frames := 7, cells := 1, slots := 6, locals := 200 } [.ref (a 0), .ref (a 51)] (fun v9 n2 g2 => some (.int (nI 0)) = v9 ∧ n9 = n2 ∧ kg g9 2 x = g2) := by
  refine j_wr (by decide) (Nat.le_of_ble_eq_true rfl) ?_
  intro p e s m A below meth c ls Q X htab hJ hNc hP hS hl hQ
  have hl : lv_has ls 3 [(0, .ref (a 0)), (1, .ref (a 51))] := hl
  refine lv_aload_n X.1 X.2.1 jd_L_tick_0 rfl (lv_at hl 1 rfl) ?_
  refine lv_iconst (v := nI 0) X.1 X.2.1 jd_L_tick_1 (by decide) ?_
  refine lv_aload_n X.1 X.2.1 jd_L_tick_2 rfl (lv_at hl 0 rfl) ?_
  refine j_rune (j_mkV X hP (hK _) jU_bs (j_pe X hP) jm_514 jm_512 jm_513 jm_1 jm_511 (i := 0) (by decide) rfl rfl (show jOk jy_K_tick 0 by unfold jOk; decide +kernel) ⟨by show rm.frames + 1 ≤ 7; omega, by show 8 + (1 + 11) + rm.locals ≤ 200; omega⟩ ⟨hR.2.2.1, hR.2.2.2⟩ hl.1 rfl (Nat.le_of_ble_eq_true rfl) ⟨Nat.zero_le _, Nat.zero_le _⟩ jd_L_tick_3) hS (fun v9 n8 g8 H locs h9 hP hS => ?_)
  obtain ⟨rfl, rfl, rfl⟩ := h9
  refine W.eq (g2 := F0 m 6 ls [.int (nI x), .int (nI 0), .ref (a 51)]) rfl ?_
  refine lv_i2l (v := lN x) X.1 X.2.1 jd_L_tick_6 (nI_l hx) ?_
  refine j_lst X hap hP hS x jd_L_tick_7 (fun H locs hP hS => ?_)
  refine lv_goto X.1 X.2.1 jd_L_tick_8 (tgt := 14) (by decide) ?_
  refine lv_iconst (v := nI 0) X.1 X.2.1 jd_L_tick_14 (by decide) ?_
  refine W.widen (k := 1) (n := 6) (Nat.le_of_ble_eq_true rfl) (Nat.le_of_ble_eq_true rfl) ?_
  exact hQ _ _ _ _ _ _ _ ⟨rfl, rfl, rfl⟩ hP hS jd_L_tick_15

set_option maxHeartbeats 4000000 in
theorem w_tick_IS (l : Launch) (d : Nat → Nat) (D : va_G) (a : Nat → Nat) (n : Nat → Nat → Nat) (g : Nat → Nat) (rm : Room) (hR : rm.frames ≤ 6 ∧ rm.locals ≤ 150 ∧ rm.cells = 1 ∧ rm.slots = 6) (hT : jThr l d D a n g jy_K_tick jb_K_tick 1 (some .int) rm [.ref (a 0)] "java/lang/IllegalStateException") : jWr l d D a n g jy_L_tick jb_L_tick 3 [(0, 8, 11, 15)] { frames := 7, cells := 1, slots := 6, locals := 200 } [.ref (a 0), .ref (a 51)] (fun v9 n2 g2 => some (.int (nI 1)) = v9 ∧ n = n2 ∧ g = g2) := by
  refine j_wr (by decide) (Nat.le_of_ble_eq_true rfl) ?_
  intro p e s m A below meth c ls Q X htab hJ hNc hP hS hl hQ
  have hl : lv_has ls 3 [(0, .ref (a 0)), (1, .ref (a 51))] := hl
  refine lv_aload_n X.1 X.2.1 jd_L_tick_0 rfl (lv_at hl 1 rfl) ?_
  refine lv_iconst (v := nI 0) X.1 X.2.1 jd_L_tick_1 (by decide) ?_
  refine lv_aload_n X.1 X.2.1 jd_L_tick_2 rfl (lv_at hl 0 rfl) ?_
  refine j_thr X hP hS hJ hT jm_514 jm_512 jm_513 jm_1 jm_511 (i := 0) (by decide) rfl rfl (show jOk jy_K_tick 0 by unfold jOk; decide +kernel) ⟨by show rm.frames + 1 ≤ 7; omega, by show 8 + (1 + 11) + rm.locals ≤ 200; omega⟩ ⟨hR.2.2.1, hR.2.2.2⟩ hl.1 rfl (Nat.le_of_ble_eq_true rfl) ⟨Nat.le_of_ble_eq_true rfl, Nat.le_of_ble_eq_true rfl⟩ jd_L_tick_3 (fun ce q H locs hP hS hce hcv hcl => ?_)
  have hpass : ∀ z ∈ ([] : List ExceptionTableEntry), covers z 3 = false ∨ (z.catchType ≠ 0 ∧ ∃ nm : String, (Cond.classLink "KeyDistillerLaw" z.catchType nm).before A s = true ∧ va_Nc "java/lang/IllegalStateException" nm s) := by
    intro z hz
    exact absurd hz List.not_mem_nil
  refine vx_catch (own := "KeyDistillerLaw") (name := "java/lang/IllegalStateException") X.2.2.2.2.2.1 [] ⟨0, 8, 11, 15⟩ [] (by rw [htab]; rfl) hpass rfl (by decide) (X.2.2.2.2.2.2.1 _ jm_234) (va_Nw.use rfl (hJ.1 (Cond.castable "java/lang/IllegalStateException" "java/lang/IllegalStateException") (by decide))) hce hcv hcl ?_
  refine W.eq (g2 := F0 m 11 ls [.ref q]) rfl ?_
  refine lv_astore_n X.1 X.2.1 jd_L_tick_11 rfl hl (by decide) rfl (fun ls hl => ?_)
  have hl : lv_has ls 3 [(2, .ref q), (0, .ref (a 0)), (1, .ref (a 51))] := hl
  refine lv_iconst (v := nI 1) X.1 X.2.1 jd_L_tick_12 (by decide) ?_
  exact hQ _ _ _ _ _ _ _ ⟨rfl, rfl, rfl⟩ hP hS jd_L_tick_13

set_option maxHeartbeats 4000000 in
theorem w_bit_r (l : Launch) (d : Nat → Nat) (D : va_G) (a : Nat → Nat) (n : Nat → Nat → Nat) (g : Nat → Nat) (hap : ∀ i j : Nat, i < 52 → j < 52 → a i = a j → i = j) (p0 p1 : Nat) (x : Nat) (hx : x < 2147483648) (rm : Room) (hR : rm.frames ≤ 6 ∧ rm.locals ≤ 150 ∧ rm.cells = 0 ∧ rm.slots = 0) (hK : jPure l d D a n g jy_K_bit jb_K_bit 3 (some .int) rm [.ref (a 0), .int (nI p0), .int (nI p1)] (some (.int (nI x)))) : jWr l d D a n g jy_L_bit jb_L_bit 5 [(0, 10, 13, 15), (0, 10, 17, 33)] { frames := 7, cells := 1, slots := 6, locals := 200 } [.ref (a 0), .int (nI p0), .int (nI p1), .ref (a 51)] (fun v9 n2 g2 => some (.int (nI 0)) = v9 ∧ n = n2 ∧ kg g 2 x = g2) := by
  refine j_wr (by decide) (Nat.le_of_ble_eq_true rfl) ?_
  intro p e s m A below meth c ls Q X htab hJ hNc hP hS hl hQ
  have hl : lv_has ls 5 [(0, .ref (a 0)), (1, .int (nI p0)), (2, .int (nI p1)), (3, .ref (a 51))] := hl
  refine lv_aload_n X.1 X.2.1 jd_L_bit_0 rfl (lv_at hl 3 rfl) ?_
  refine lv_iconst (v := nI 0) X.1 X.2.1 jd_L_bit_1 (by decide) ?_
  refine lv_aload_n X.1 X.2.1 jd_L_bit_2 rfl (lv_at hl 0 rfl) ?_
  refine lv_iload_n X.1 X.2.1 jd_L_bit_3 rfl (lv_at hl 1 rfl) ?_
  refine lv_iload_n X.1 X.2.1 jd_L_bit_4 rfl (lv_at hl 2 rfl) ?_
  refine j_run (j_mkV X hP hK jU_b (j_pp X hP) jm_526 jm_524 jm_525 jm_1 jm_523 (i := 0) (by decide) rfl rfl (show jOk jy_K_bit 2 by unfold jOk; decide +kernel) ⟨by show rm.frames + 1 ≤ 7; omega, by show 8 + (3 + 11) + rm.locals ≤ 200; omega⟩ ⟨hR.2.2.1, hR.2.2.2⟩ hl.1 rfl (Nat.le_of_ble_eq_true rfl) ⟨Nat.zero_le _, Nat.zero_le _⟩ jd_L_bit_5) ?_
  refine W.eq (g2 := F0 m 8 ls [.int (nI x), .int (nI 0), .ref (a 51)]) rfl ?_
  refine lv_i2l (v := lN x) X.1 X.2.1 jd_L_bit_8 (nI_l hx) ?_
  refine j_lst X hap hP hS x jd_L_bit_9 (fun H locs hP hS => ?_)
  refine lv_goto X.1 X.2.1 jd_L_bit_10 (tgt := 21) (by decide) ?_
  refine lv_iconst (v := nI 0) X.1 X.2.1 jd_L_bit_21 (by decide) ?_
  refine W.widen (k := 1) (n := 6) (Nat.le_of_ble_eq_true rfl) (Nat.le_of_ble_eq_true rfl) ?_
  exact hQ _ _ _ _ _ _ _ ⟨rfl, rfl, rfl⟩ hP hS jd_L_bit_22

set_option maxHeartbeats 4000000 in
theorem w_bit_IS (l : Launch) (d : Nat → Nat) (D : va_G) (a : Nat → Nat) (n : Nat → Nat → Nat) (g : Nat → Nat) (p0 p1 : Nat) (rm : Room) (hR : rm.frames ≤ 6 ∧ rm.locals ≤ 150 ∧ rm.cells = 1 ∧ rm.slots = 6) (hT : jThr l d D a n g jy_K_bit jb_K_bit 3 (some .int) rm [.ref (a 0), .int (nI p0), .int (nI p1)] "java/lang/IllegalStateException") : jWr l d D a n g jy_L_bit jb_L_bit 5 [(0, 10, 13, 15), (0, 10, 17, 33)] { frames := 7, cells := 1, slots := 6, locals := 200 } [.ref (a 0), .int (nI p0), .int (nI p1), .ref (a 51)] (fun v9 n2 g2 => some (.int (nI 1)) = v9 ∧ n = n2 ∧ g = g2) := by
  refine j_wr (by decide) (Nat.le_of_ble_eq_true rfl) ?_
  intro p e s m A below meth c ls Q X htab hJ hNc hP hS hl hQ
  have hl : lv_has ls 5 [(0, .ref (a 0)), (1, .int (nI p0)), (2, .int (nI p1)), (3, .ref (a 51))] := hl
  refine lv_aload_n X.1 X.2.1 jd_L_bit_0 rfl (lv_at hl 3 rfl) ?_
  refine lv_iconst (v := nI 0) X.1 X.2.1 jd_L_bit_1 (by decide) ?_
  refine lv_aload_n X.1 X.2.1 jd_L_bit_2 rfl (lv_at hl 0 rfl) ?_
  refine lv_iload_n X.1 X.2.1 jd_L_bit_3 rfl (lv_at hl 1 rfl) ?_
  refine lv_iload_n X.1 X.2.1 jd_L_bit_4 rfl (lv_at hl 2 rfl) ?_
  refine j_thr X hP hS hJ hT jm_526 jm_524 jm_525 jm_1 jm_523 (i := 0) (by decide) rfl rfl (show jOk jy_K_bit 2 by unfold jOk; decide +kernel) ⟨by show rm.frames + 1 ≤ 7; omega, by show 8 + (3 + 11) + rm.locals ≤ 200; omega⟩ ⟨hR.2.2.1, hR.2.2.2⟩ hl.1 rfl (Nat.le_of_ble_eq_true rfl) ⟨Nat.le_of_ble_eq_true rfl, Nat.le_of_ble_eq_true rfl⟩ jd_L_bit_5 (fun ce q H locs hP hS hce hcv hcl => ?_)
  have hpass : ∀ z ∈ ([] : List ExceptionTableEntry), covers z 5 = false ∨ (z.catchType ≠ 0 ∧ ∃ nm : String, (Cond.classLink "KeyDistillerLaw" z.catchType nm).before A s = true ∧ va_Nc "java/lang/IllegalStateException" nm s) := by
    intro z hz
    exact absurd hz List.not_mem_nil
  refine vx_catch (own := "KeyDistillerLaw") (name := "java/lang/IllegalStateException") X.2.2.2.2.2.1 [] ⟨0, 10, 13, 15⟩ [⟨0, 10, 17, 33⟩] (by rw [htab]; rfl) hpass rfl (by decide) (X.2.2.2.2.2.2.1 _ jm_234) (va_Nw.use rfl (hJ.1 (Cond.castable "java/lang/IllegalStateException" "java/lang/IllegalStateException") (by decide))) hce hcv hcl ?_
  refine W.eq (g2 := F0 m 13 ls [.ref q]) rfl ?_
  refine lv_astore X.1 X.2.1 jd_L_bit_13 hl (by decide) rfl (fun ls hl => ?_)
  have hl : lv_has ls 5 [(4, .ref q), (0, .ref (a 0)), (1, .int (nI p0)), (2, .int (nI p1)), (3, .ref (a 51))] := hl
  refine lv_iconst (v := nI 1) X.1 X.2.1 jd_L_bit_15 (by decide) ?_
  exact hQ _ _ _ _ _ _ _ ⟨rfl, rfl, rfl⟩ hP hS jd_L_bit_16

set_option maxHeartbeats 4000000 in
theorem w_bit_IO (l : Launch) (d : Nat → Nat) (D : va_G) (a : Nat → Nat) (n : Nat → Nat → Nat) (g : Nat → Nat) (p0 p1 : Nat) (rm : Room) (hR : rm.frames ≤ 6 ∧ rm.locals ≤ 150 ∧ rm.cells = 1 ∧ rm.slots = 6) (hT : jThr l d D a n g jy_K_bit jb_K_bit 3 (some .int) rm [.ref (a 0), .int (nI p0), .int (nI p1)] "java/lang/IndexOutOfBoundsException") : jWr l d D a n g jy_L_bit jb_L_bit 5 [(0, 10, 13, 15), (0, 10, 17, 33)] { frames := 7, cells := 1, slots := 6, locals := 200 } [.ref (a 0), .int (nI p0), .int (nI p1), .ref (a 51)] (fun v9 n2 g2 => some (.int (nI 2)) = v9 ∧ n = n2 ∧ g = g2) := by
  refine j_wr (by decide) (Nat.le_of_ble_eq_true rfl) ?_
  intro p e s m A below meth c ls Q X htab hJ hNc hP hS hl hQ
  have hl : lv_has ls 5 [(0, .ref (a 0)), (1, .int (nI p0)), (2, .int (nI p1)), (3, .ref (a 51))] := hl
  refine lv_aload_n X.1 X.2.1 jd_L_bit_0 rfl (lv_at hl 3 rfl) ?_
  refine lv_iconst (v := nI 0) X.1 X.2.1 jd_L_bit_1 (by decide) ?_
  refine lv_aload_n X.1 X.2.1 jd_L_bit_2 rfl (lv_at hl 0 rfl) ?_
  refine lv_iload_n X.1 X.2.1 jd_L_bit_3 rfl (lv_at hl 1 rfl) ?_
  refine lv_iload_n X.1 X.2.1 jd_L_bit_4 rfl (lv_at hl 2 rfl) ?_
  refine j_thr X hP hS hJ hT jm_526 jm_524 jm_525 jm_1 jm_523 (i := 0) (by decide) rfl rfl (show jOk jy_K_bit 2 by unfold jOk; decide +kernel) ⟨by show rm.frames + 1 ≤ 7; omega, by show 8 + (3 + 11) + rm.locals ≤ 200; omega⟩ ⟨hR.2.2.1, hR.2.2.2⟩ hl.1 rfl (Nat.le_of_ble_eq_true rfl) ⟨Nat.le_of_ble_eq_true rfl, Nat.le_of_ble_eq_true rfl⟩ jd_L_bit_5 (fun ce q H locs hP hS hce hcv hcl => ?_)
  have hpass : ∀ z ∈ ([⟨0, 10, 13, 15⟩] : List ExceptionTableEntry), covers z 5 = false ∨ (z.catchType ≠ 0 ∧ ∃ nm : String, (Cond.classLink "KeyDistillerLaw" z.catchType nm).before A s = true ∧ va_Nc "java/lang/IndexOutOfBoundsException" nm s) := by
    intro z hz
    simp only [List.mem_cons, List.not_mem_nil, or_false] at hz
    rcases hz with rfl
    · exact Or.inr ⟨by decide, "java/lang/IllegalStateException", X.2.2.2.2.2.2.1 _ jm_234, hNc ("java/lang/IndexOutOfBoundsException", "java/lang/IllegalStateException") (by decide)⟩
  refine vx_catch (own := "KeyDistillerLaw") (name := "java/lang/IndexOutOfBoundsException") X.2.2.2.2.2.1 [⟨0, 10, 13, 15⟩] ⟨0, 10, 17, 33⟩ [] (by rw [htab]; rfl) hpass rfl (by decide) (X.2.2.2.2.2.2.1 _ jm_464) (va_Nw.use rfl (hJ.1 (Cond.castable "java/lang/IndexOutOfBoundsException" "java/lang/IndexOutOfBoundsException") (by decide))) hce hcv hcl ?_
  refine W.eq (g2 := F0 m 17 ls [.ref q]) rfl ?_
  refine lv_astore X.1 X.2.1 jd_L_bit_17 hl (by decide) rfl (fun ls hl => ?_)
  have hl : lv_has ls 5 [(4, .ref q), (0, .ref (a 0)), (1, .int (nI p0)), (2, .int (nI p1)), (3, .ref (a 51))] := hl
  refine lv_iconst (v := nI 2) X.1 X.2.1 jd_L_bit_19 (by decide) ?_
  exact hQ _ _ _ _ _ _ _ ⟨rfl, rfl, rfl⟩ hP hS jd_L_bit_20

set_option maxHeartbeats 4000000 in
theorem w_item_r (l : Launch) (d : Nat → Nat) (D : va_G) (a : Nat → Nat) (n : Nat → Nat → Nat) (g : Nat → Nat) (hap : ∀ i j : Nat, i < 52 → j < 52 → a i = a j → i = j) (p0 p1 : Nat) (x : Nat) (hx : x < 2147483648) (rm : Room) (hR : rm.frames ≤ 6 ∧ rm.locals ≤ 150 ∧ rm.cells = 0 ∧ rm.slots = 0) (hK : jPure l d D a n g jy_K_item jb_K_item 3 (some .int) rm [.ref (a 0), .int (nI p0), .int (nI p1)] (some (.int (nI x)))) : jWr l d D a n g jy_L_item jb_L_item 5 [(0, 10, 13, 15), (0, 10, 17, 33)] { frames := 7, cells := 1, slots := 6, locals := 200 } [.ref (a 0), .int (nI p0), .int (nI p1), .ref (a 51)] (fun v9 n2 g2 => some (.int (nI 0)) = v9 ∧ n = n2 ∧ kg g 2 x = g2) := by
  refine j_wr (by decide) (Nat.le_of_ble_eq_true rfl) ?_
  intro p e s m A below meth c ls Q X htab hJ hNc hP hS hl hQ
  have hl : lv_has ls 5 [(0, .ref (a 0)), (1, .int (nI p0)), (2, .int (nI p1)), (3, .ref (a 51))] := hl
  refine lv_aload_n X.1 X.2.1 jd_L_item_0 rfl (lv_at hl 3 rfl) ?_
  refine lv_iconst (v := nI 0) X.1 X.2.1 jd_L_item_1 (by decide) ?_
  refine lv_aload_n X.1 X.2.1 jd_L_item_2 rfl (lv_at hl 0 rfl) ?_
  refine lv_iload_n X.1 X.2.1 jd_L_item_3 rfl (lv_at hl 1 rfl) ?_
  refine lv_iload_n X.1 X.2.1 jd_L_item_4 rfl (lv_at hl 2 rfl) ?_
  refine j_run (j_mkV X hP hK jU_b (j_pp X hP) jm_535 jm_533 jm_534 jm_1 jm_532 (i := 0) (by decide) rfl rfl (show jOk jy_K_item 2 by unfold jOk; decide +kernel) ⟨by show rm.frames + 1 ≤ 7; omega, by show 8 + (3 + 11) + rm.locals ≤ 200; omega⟩ ⟨hR.2.2.1, hR.2.2.2⟩ hl.1 rfl (Nat.le_of_ble_eq_true rfl) ⟨Nat.zero_le _, Nat.zero_le _⟩ jd_L_item_5) ?_
  refine W.eq (g2 := F0 m 8 ls [.int (nI x), .int (nI 0), .ref (a 51)]) rfl ?_
  refine lv_i2l (v := lN x) X.1 X.2.1 jd_L_item_8 (nI_l hx) ?_
  refine j_lst X hap hP hS x jd_L_item_9 (fun H locs hP hS => ?_)
  refine lv_goto X.1 X.2.1 jd_L_item_10 (tgt := 21) (by decide) ?_
  refine lv_iconst (v := nI 0) X.1 X.2.1 jd_L_item_21 (by decide) ?_
  refine W.widen (k := 1) (n := 6) (Nat.le_of_ble_eq_true rfl) (Nat.le_of_ble_eq_true rfl) ?_
  exact hQ _ _ _ _ _ _ _ ⟨rfl, rfl, rfl⟩ hP hS jd_L_item_22

set_option maxHeartbeats 4000000 in
theorem w_item_IS (l : Launch) (d : Nat → Nat) (D : va_G) (a : Nat → Nat) (n : Nat → Nat → Nat) (g : Nat → Nat) (p0 p1 : Nat) (rm : Room) (hR : rm.frames ≤ 6 ∧ rm.locals ≤ 150 ∧ rm.cells = 1 ∧ rm.slots = 6) (hT : jThr l d D a n g jy_K_item jb_K_item 3 (some .int) rm [.ref (a 0), .int (nI p0), .int (nI p1)] "java/lang/IllegalStateException") : jWr l d D a n g jy_L_item jb_L_item 5 [(0, 10, 13, 15), (0, 10, 17, 33)] { frames := 7, cells := 1, slots := 6, locals := 200 } [.ref (a 0), .int (nI p0), .int (nI p1), .ref (a 51)] (fun v9 n2 g2 => some (.int (nI 1)) = v9 ∧ n = n2 ∧ g = g2) := by
  refine j_wr (by decide) (Nat.le_of_ble_eq_true rfl) ?_
  intro p e s m A below meth c ls Q X htab hJ hNc hP hS hl hQ
  have hl : lv_has ls 5 [(0, .ref (a 0)), (1, .int (nI p0)), (2, .int (nI p1)), (3, .ref (a 51))] := hl
  refine lv_aload_n X.1 X.2.1 jd_L_item_0 rfl (lv_at hl 3 rfl) ?_
  refine lv_iconst (v := nI 0) X.1 X.2.1 jd_L_item_1 (by decide) ?_
  refine lv_aload_n X.1 X.2.1 jd_L_item_2 rfl (lv_at hl 0 rfl) ?_
  refine lv_iload_n X.1 X.2.1 jd_L_item_3 rfl (lv_at hl 1 rfl) ?_
  refine lv_iload_n X.1 X.2.1 jd_L_item_4 rfl (lv_at hl 2 rfl) ?_
  refine j_thr X hP hS hJ hT jm_535 jm_533 jm_534 jm_1 jm_532 (i := 0) (by decide) rfl rfl (show jOk jy_K_item 2 by unfold jOk; decide +kernel) ⟨by show rm.frames + 1 ≤ 7; omega, by show 8 + (3 + 11) + rm.locals ≤ 200; omega⟩ ⟨hR.2.2.1, hR.2.2.2⟩ hl.1 rfl (Nat.le_of_ble_eq_true rfl) ⟨Nat.le_of_ble_eq_true rfl, Nat.le_of_ble_eq_true rfl⟩ jd_L_item_5 (fun ce q H locs hP hS hce hcv hcl => ?_)
  have hpass : ∀ z ∈ ([] : List ExceptionTableEntry), covers z 5 = false ∨ (z.catchType ≠ 0 ∧ ∃ nm : String, (Cond.classLink "KeyDistillerLaw" z.catchType nm).before A s = true ∧ va_Nc "java/lang/IllegalStateException" nm s) := by
    intro z hz
    exact absurd hz List.not_mem_nil
  refine vx_catch (own := "KeyDistillerLaw") (name := "java/lang/IllegalStateException") X.2.2.2.2.2.1 [] ⟨0, 10, 13, 15⟩ [⟨0, 10, 17, 33⟩] (by rw [htab]; rfl) hpass rfl (by decide) (X.2.2.2.2.2.2.1 _ jm_234) (va_Nw.use rfl (hJ.1 (Cond.castable "java/lang/IllegalStateException" "java/lang/IllegalStateException") (by decide))) hce hcv hcl ?_
  refine W.eq (g2 := F0 m 13 ls [.ref q]) rfl ?_
  refine lv_astore X.1 X.2.1 jd_L_item_13 hl (by decide) rfl (fun ls hl => ?_)
  have hl : lv_has ls 5 [(4, .ref q), (0, .ref (a 0)), (1, .int (nI p0)), (2, .int (nI p1)), (3, .ref (a 51))] := hl
  refine lv_iconst (v := nI 1) X.1 X.2.1 jd_L_item_15 (by decide) ?_
  exact hQ _ _ _ _ _ _ _ ⟨rfl, rfl, rfl⟩ hP hS jd_L_item_16

set_option maxHeartbeats 4000000 in
theorem w_item_IO (l : Launch) (d : Nat → Nat) (D : va_G) (a : Nat → Nat) (n : Nat → Nat → Nat) (g : Nat → Nat) (p0 p1 : Nat) (rm : Room) (hR : rm.frames ≤ 6 ∧ rm.locals ≤ 150 ∧ rm.cells = 1 ∧ rm.slots = 6) (hT : jThr l d D a n g jy_K_item jb_K_item 3 (some .int) rm [.ref (a 0), .int (nI p0), .int (nI p1)] "java/lang/IndexOutOfBoundsException") : jWr l d D a n g jy_L_item jb_L_item 5 [(0, 10, 13, 15), (0, 10, 17, 33)] { frames := 7, cells := 1, slots := 6, locals := 200 } [.ref (a 0), .int (nI p0), .int (nI p1), .ref (a 51)] (fun v9 n2 g2 => some (.int (nI 2)) = v9 ∧ n = n2 ∧ g = g2) := by
  refine j_wr (by decide) (Nat.le_of_ble_eq_true rfl) ?_
  intro p e s m A below meth c ls Q X htab hJ hNc hP hS hl hQ
  have hl : lv_has ls 5 [(0, .ref (a 0)), (1, .int (nI p0)), (2, .int (nI p1)), (3, .ref (a 51))] := hl
  refine lv_aload_n X.1 X.2.1 jd_L_item_0 rfl (lv_at hl 3 rfl) ?_
  refine lv_iconst (v := nI 0) X.1 X.2.1 jd_L_item_1 (by decide) ?_
  refine lv_aload_n X.1 X.2.1 jd_L_item_2 rfl (lv_at hl 0 rfl) ?_
  refine lv_iload_n X.1 X.2.1 jd_L_item_3 rfl (lv_at hl 1 rfl) ?_
  refine lv_iload_n X.1 X.2.1 jd_L_item_4 rfl (lv_at hl 2 rfl) ?_
  refine j_thr X hP hS hJ hT jm_535 jm_533 jm_534 jm_1 jm_532 (i := 0) (by decide) rfl rfl (show jOk jy_K_item 2 by unfold jOk; decide +kernel) ⟨by show rm.frames + 1 ≤ 7; omega, by show 8 + (3 + 11) + rm.locals ≤ 200; omega⟩ ⟨hR.2.2.1, hR.2.2.2⟩ hl.1 rfl (Nat.le_of_ble_eq_true rfl) ⟨Nat.le_of_ble_eq_true rfl, Nat.le_of_ble_eq_true rfl⟩ jd_L_item_5 (fun ce q H locs hP hS hce hcv hcl => ?_)
  have hpass : ∀ z ∈ ([⟨0, 10, 13, 15⟩] : List ExceptionTableEntry), covers z 5 = false ∨ (z.catchType ≠ 0 ∧ ∃ nm : String, (Cond.classLink "KeyDistillerLaw" z.catchType nm).before A s = true ∧ va_Nc "java/lang/IndexOutOfBoundsException" nm s) := by
    intro z hz
    simp only [List.mem_cons, List.not_mem_nil, or_false] at hz
    rcases hz with rfl
    · exact Or.inr ⟨by decide, "java/lang/IllegalStateException", X.2.2.2.2.2.2.1 _ jm_234, hNc ("java/lang/IndexOutOfBoundsException", "java/lang/IllegalStateException") (by decide)⟩
  refine vx_catch (own := "KeyDistillerLaw") (name := "java/lang/IndexOutOfBoundsException") X.2.2.2.2.2.1 [⟨0, 10, 13, 15⟩] ⟨0, 10, 17, 33⟩ [] (by rw [htab]; rfl) hpass rfl (by decide) (X.2.2.2.2.2.2.1 _ jm_464) (va_Nw.use rfl (hJ.1 (Cond.castable "java/lang/IndexOutOfBoundsException" "java/lang/IndexOutOfBoundsException") (by decide))) hce hcv hcl ?_
  refine W.eq (g2 := F0 m 17 ls [.ref q]) rfl ?_
  refine lv_astore X.1 X.2.1 jd_L_item_17 hl (by decide) rfl (fun ls hl => ?_)
  have hl : lv_has ls 5 [(4, .ref q), (0, .ref (a 0)), (1, .int (nI p0)), (2, .int (nI p1)), (3, .ref (a 51))] := hl
  refine lv_iconst (v := nI 2) X.1 X.2.1 jd_L_item_19 (by decide) ?_
  exact hQ _ _ _ _ _ _ _ ⟨rfl, rfl, rfl⟩ hP hS jd_L_item_20

set_option maxHeartbeats 4000000 in
theorem w_tag_r (l : Launch) (d : Nat → Nat) (D : va_G) (a : Nat → Nat) (n : Nat → Nat → Nat) (g : Nat → Nat) (hap : ∀ i j : Nat, i < 52 → j < 52 → a i = a j → i = j) (p0 p1 : Nat) (x : Nat) (hx : x < 2147483648) (rm : Room) (hR : rm.frames ≤ 6 ∧ rm.locals ≤ 150 ∧ rm.cells = 0 ∧ rm.slots = 0) (hK : jPure l d D a n g jy_K_tag jb_K_tag 3 (some .int) rm [.ref (a 0), .int (nI p0), .int (nI p1)] (some (.int (nI x)))) : jWr l d D a n g jy_L_tag jb_L_tag 5 [(0, 10, 13, 15), (0, 10, 17, 13)] { frames := 7, cells := 1, slots := 6, locals := 200 } [.ref (a 0), .int (nI p0), .int (nI p1), .ref (a 51)] (fun v9 n2 g2 => some (.int (nI 0)) = v9 ∧ n = n2 ∧ kg g 2 x = g2) := by
  refine j_wr (by decide) (Nat.le_of_ble_eq_true rfl) ?_
  intro p e s m A below meth c ls Q X htab hJ hNc hP hS hl hQ
  have hl : lv_has ls 5 [(0, .ref (a 0)), (1, .int (nI p0)), (2, .int (nI p1)), (3, .ref (a 51))] := hl
  refine lv_aload_n X.1 X.2.1 jd_L_tag_0 rfl (lv_at hl 3 rfl) ?_
  refine lv_iconst (v := nI 0) X.1 X.2.1 jd_L_tag_1 (by decide) ?_
  refine lv_aload_n X.1 X.2.1 jd_L_tag_2 rfl (lv_at hl 0 rfl) ?_
  refine lv_iload_n X.1 X.2.1 jd_L_tag_3 rfl (lv_at hl 1 rfl) ?_
  refine lv_iload_n X.1 X.2.1 jd_L_tag_4 rfl (lv_at hl 2 rfl) ?_
  refine j_run (j_mkV X hP hK jU_b (j_pp X hP) jm_543 jm_541 jm_542 jm_1 jm_540 (i := 0) (by decide) rfl rfl (show jOk jy_K_tag 2 by unfold jOk; decide +kernel) ⟨by show rm.frames + 1 ≤ 7; omega, by show 8 + (3 + 11) + rm.locals ≤ 200; omega⟩ ⟨hR.2.2.1, hR.2.2.2⟩ hl.1 rfl (Nat.le_of_ble_eq_true rfl) ⟨Nat.zero_le _, Nat.zero_le _⟩ jd_L_tag_5) ?_
  refine W.eq (g2 := F0 m 8 ls [.int (nI x), .int (nI 0), .ref (a 51)]) rfl ?_
  refine lv_i2l (v := lN x) X.1 X.2.1 jd_L_tag_8 (nI_l hx) ?_
  refine j_lst X hap hP hS x jd_L_tag_9 (fun H locs hP hS => ?_)
  refine lv_goto X.1 X.2.1 jd_L_tag_10 (tgt := 21) (by decide) ?_
  refine lv_iconst (v := nI 0) X.1 X.2.1 jd_L_tag_21 (by decide) ?_
  refine W.widen (k := 1) (n := 6) (Nat.le_of_ble_eq_true rfl) (Nat.le_of_ble_eq_true rfl) ?_
  exact hQ _ _ _ _ _ _ _ ⟨rfl, rfl, rfl⟩ hP hS jd_L_tag_22

set_option maxHeartbeats 4000000 in
theorem w_tag_IS (l : Launch) (d : Nat → Nat) (D : va_G) (a : Nat → Nat) (n : Nat → Nat → Nat) (g : Nat → Nat) (p0 p1 : Nat) (rm : Room) (hR : rm.frames ≤ 6 ∧ rm.locals ≤ 150 ∧ rm.cells = 1 ∧ rm.slots = 6) (hT : jThr l d D a n g jy_K_tag jb_K_tag 3 (some .int) rm [.ref (a 0), .int (nI p0), .int (nI p1)] "java/lang/IllegalStateException") : jWr l d D a n g jy_L_tag jb_L_tag 5 [(0, 10, 13, 15), (0, 10, 17, 13)] { frames := 7, cells := 1, slots := 6, locals := 200 } [.ref (a 0), .int (nI p0), .int (nI p1), .ref (a 51)] (fun v9 n2 g2 => some (.int (nI 1)) = v9 ∧ n = n2 ∧ g = g2) := by
  refine j_wr (by decide) (Nat.le_of_ble_eq_true rfl) ?_
  intro p e s m A below meth c ls Q X htab hJ hNc hP hS hl hQ
  have hl : lv_has ls 5 [(0, .ref (a 0)), (1, .int (nI p0)), (2, .int (nI p1)), (3, .ref (a 51))] := hl
  refine lv_aload_n X.1 X.2.1 jd_L_tag_0 rfl (lv_at hl 3 rfl) ?_
  refine lv_iconst (v := nI 0) X.1 X.2.1 jd_L_tag_1 (by decide) ?_
  refine lv_aload_n X.1 X.2.1 jd_L_tag_2 rfl (lv_at hl 0 rfl) ?_
  refine lv_iload_n X.1 X.2.1 jd_L_tag_3 rfl (lv_at hl 1 rfl) ?_
  refine lv_iload_n X.1 X.2.1 jd_L_tag_4 rfl (lv_at hl 2 rfl) ?_
  refine j_thr X hP hS hJ hT jm_543 jm_541 jm_542 jm_1 jm_540 (i := 0) (by decide) rfl rfl (show jOk jy_K_tag 2 by unfold jOk; decide +kernel) ⟨by show rm.frames + 1 ≤ 7; omega, by show 8 + (3 + 11) + rm.locals ≤ 200; omega⟩ ⟨hR.2.2.1, hR.2.2.2⟩ hl.1 rfl (Nat.le_of_ble_eq_true rfl) ⟨Nat.le_of_ble_eq_true rfl, Nat.le_of_ble_eq_true rfl⟩ jd_L_tag_5 (fun ce q H locs hP hS hce hcv hcl => ?_)
  have hpass : ∀ z ∈ ([] : List ExceptionTableEntry), covers z 5 = false ∨ (z.catchType ≠ 0 ∧ ∃ nm : String, (Cond.classLink "KeyDistillerLaw" z.catchType nm).before A s = true ∧ va_Nc "java/lang/IllegalStateException" nm s) := by
    intro z hz
    exact absurd hz List.not_mem_nil
  refine vx_catch (own := "KeyDistillerLaw") (name := "java/lang/IllegalStateException") X.2.2.2.2.2.1 [] ⟨0, 10, 13, 15⟩ [⟨0, 10, 17, 13⟩] (by rw [htab]; rfl) hpass rfl (by decide) (X.2.2.2.2.2.2.1 _ jm_234) (va_Nw.use rfl (hJ.1 (Cond.castable "java/lang/IllegalStateException" "java/lang/IllegalStateException") (by decide))) hce hcv hcl ?_
  refine W.eq (g2 := F0 m 13 ls [.ref q]) rfl ?_
  refine lv_astore X.1 X.2.1 jd_L_tag_13 hl (by decide) rfl (fun ls hl => ?_)
  have hl : lv_has ls 5 [(4, .ref q), (0, .ref (a 0)), (1, .int (nI p0)), (2, .int (nI p1)), (3, .ref (a 51))] := hl
  refine lv_iconst (v := nI 1) X.1 X.2.1 jd_L_tag_15 (by decide) ?_
  exact hQ _ _ _ _ _ _ _ ⟨rfl, rfl, rfl⟩ hP hS jd_L_tag_16

set_option maxHeartbeats 4000000 in
theorem w_tag_IA (l : Launch) (d : Nat → Nat) (D : va_G) (a : Nat → Nat) (n : Nat → Nat → Nat) (g : Nat → Nat) (p0 p1 : Nat) (rm : Room) (hR : rm.frames ≤ 6 ∧ rm.locals ≤ 150 ∧ rm.cells = 1 ∧ rm.slots = 6) (hT : jThr l d D a n g jy_K_tag jb_K_tag 3 (some .int) rm [.ref (a 0), .int (nI p0), .int (nI p1)] "java/lang/IllegalArgumentException") : jWr l d D a n g jy_L_tag jb_L_tag 5 [(0, 10, 13, 15), (0, 10, 17, 13)] { frames := 7, cells := 1, slots := 6, locals := 200 } [.ref (a 0), .int (nI p0), .int (nI p1), .ref (a 51)] (fun v9 n2 g2 => some (.int (nI 2)) = v9 ∧ n = n2 ∧ g = g2) := by
  refine j_wr (by decide) (Nat.le_of_ble_eq_true rfl) ?_
  intro p e s m A below meth c ls Q X htab hJ hNc hP hS hl hQ
  have hl : lv_has ls 5 [(0, .ref (a 0)), (1, .int (nI p0)), (2, .int (nI p1)), (3, .ref (a 51))] := hl
  refine lv_aload_n X.1 X.2.1 jd_L_tag_0 rfl (lv_at hl 3 rfl) ?_
  refine lv_iconst (v := nI 0) X.1 X.2.1 jd_L_tag_1 (by decide) ?_
  refine lv_aload_n X.1 X.2.1 jd_L_tag_2 rfl (lv_at hl 0 rfl) ?_
  refine lv_iload_n X.1 X.2.1 jd_L_tag_3 rfl (lv_at hl 1 rfl) ?_
  refine lv_iload_n X.1 X.2.1 jd_L_tag_4 rfl (lv_at hl 2 rfl) ?_
  refine j_thr X hP hS hJ hT jm_543 jm_541 jm_542 jm_1 jm_540 (i := 0) (by decide) rfl rfl (show jOk jy_K_tag 2 by unfold jOk; decide +kernel) ⟨by show rm.frames + 1 ≤ 7; omega, by show 8 + (3 + 11) + rm.locals ≤ 200; omega⟩ ⟨hR.2.2.1, hR.2.2.2⟩ hl.1 rfl (Nat.le_of_ble_eq_true rfl) ⟨Nat.le_of_ble_eq_true rfl, Nat.le_of_ble_eq_true rfl⟩ jd_L_tag_5 (fun ce q H locs hP hS hce hcv hcl => ?_)
  have hpass : ∀ z ∈ ([⟨0, 10, 13, 15⟩] : List ExceptionTableEntry), covers z 5 = false ∨ (z.catchType ≠ 0 ∧ ∃ nm : String, (Cond.classLink "KeyDistillerLaw" z.catchType nm).before A s = true ∧ va_Nc "java/lang/IllegalArgumentException" nm s) := by
    intro z hz
    simp only [List.mem_cons, List.not_mem_nil, or_false] at hz
    rcases hz with rfl
    · exact Or.inr ⟨by decide, "java/lang/IllegalStateException", X.2.2.2.2.2.2.1 _ jm_234, hNc ("java/lang/IllegalArgumentException", "java/lang/IllegalStateException") (by decide)⟩
  refine vx_catch (own := "KeyDistillerLaw") (name := "java/lang/IllegalArgumentException") X.2.2.2.2.2.1 [⟨0, 10, 13, 15⟩] ⟨0, 10, 17, 13⟩ [] (by rw [htab]; rfl) hpass rfl (by decide) (X.2.2.2.2.2.2.1 _ jm_233) (va_Nw.use rfl (hJ.1 (Cond.castable "java/lang/IllegalArgumentException" "java/lang/IllegalArgumentException") (by decide))) hce hcv hcl ?_
  refine W.eq (g2 := F0 m 17 ls [.ref q]) rfl ?_
  refine lv_astore X.1 X.2.1 jd_L_tag_17 hl (by decide) rfl (fun ls hl => ?_)
  have hl : lv_has ls 5 [(4, .ref q), (0, .ref (a 0)), (1, .int (nI p0)), (2, .int (nI p1)), (3, .ref (a 51))] := hl
  refine lv_iconst (v := nI 2) X.1 X.2.1 jd_L_tag_19 (by decide) ?_
  exact hQ _ _ _ _ _ _ _ ⟨rfl, rfl, rfl⟩ hP hS jd_L_tag_20

set_option maxHeartbeats 4000000 in
theorem w_shorten_r (l : Launch) (d : Nat → Nat) (D : va_G) (a : Nat → Nat) (n : Nat → Nat → Nat) (g : Nat → Nat) (hap : ∀ i j : Nat, i < 52 → j < 52 → a i = a j → i = j) (p0 p1 p2 : Nat) (x : Nat) (n9 : Nat → Nat → Nat) (g9 : Nat → Nat) (hx : x < 2147483648) (rm : Room) (hR : rm.frames ≤ 6 ∧ rm.locals ≤ 150 ∧ rm.cells = 0 ∧ rm.slots = 0) (hK : jEff l d D a n g jy_K_shorten jb_K_shorten 7 (some .int) rm [.ref (a 0), .long (lN p0), .int (nI p1), .int (nI p2)] (fun v9 n2 g2 => some (.int (nI x)) = v9 ∧ n9 = n2 ∧ g9 = g2)) : jWr l d D a n g jy_L_shorten jb_L_shorten 7 [(0, 13, 16, 15), (0, 13, 20, 13), (0, 13, 24, 51)] { frames := 7, cells := 1, slots := 6, locals := 200 } [.ref (a 0), .long (lN p0), .int (nI p1), .int (nI p2), .ref (a 51)] (fun v9 n2 g2 => some (.int (nI 0)) = v9 ∧ n9 = n2 ∧ kg g9 2 x = g2) := by
  refine j_wr (by decide) (Nat.le_of_ble_eq_true rfl) ?_
  intro p e s m A below meth c ls Q X htab hJ hNc hP hS hl hQ
  have hl : lv_has ls 7 [(0, .ref (a 0)), (1, .long (lN p0)), (3, .int (nI p1)), (4, .int (nI p2)), (5, .ref (a 51))] := hl
  refine lv_aload X.1 X.2.1 jd_L_shorten_0 (lv_at hl 4 rfl) ?_
  refine lv_iconst (v := nI 0) X.1 X.2.1 jd_L_shorten_2 (by decide) ?_
  refine lv_aload_n X.1 X.2.1 jd_L_shorten_3 rfl (lv_at hl 0 rfl) ?_
  refine lv_lload_n X.1 X.2.1 jd_L_shorten_4 rfl (lv_at hl 1 rfl) ?_
  refine lv_iload_n X.1 X.2.1 jd_L_shorten_5 rfl (lv_at hl 2 rfl) ?_
  refine lv_iload X.1 X.2.1 jd_L_shorten_6 (lv_at hl 3 rfl) ?_
  refine j_rune (j_mkV X hP (hK _) jU_bs (j_pe X hP) jm_570 jm_568 jm_569 jm_1 jm_567 (i := 0) (by decide) rfl rfl (show jOk jy_K_shorten 3 by unfold jOk; decide +kernel) ⟨by show rm.frames + 1 ≤ 7; omega, by show 8 + (7 + 11) + rm.locals ≤ 200; omega⟩ ⟨hR.2.2.1, hR.2.2.2⟩ hl.1 rfl (Nat.le_of_ble_eq_true rfl) ⟨Nat.zero_le _, Nat.zero_le _⟩ jd_L_shorten_8) hS (fun v9 n8 g8 H locs h9 hP hS => ?_)
  obtain ⟨rfl, rfl, rfl⟩ := h9
  refine W.eq (g2 := F0 m 11 ls [.int (nI x), .int (nI 0), .ref (a 51)]) rfl ?_
  refine lv_i2l (v := lN x) X.1 X.2.1 jd_L_shorten_11 (nI_l hx) ?_
  refine j_lst X hap hP hS x jd_L_shorten_12 (fun H locs hP hS => ?_)
  refine lv_goto X.1 X.2.1 jd_L_shorten_13 (tgt := 28) (by decide) ?_
  refine lv_iconst (v := nI 0) X.1 X.2.1 jd_L_shorten_28 (by decide) ?_
  refine W.widen (k := 1) (n := 6) (Nat.le_of_ble_eq_true rfl) (Nat.le_of_ble_eq_true rfl) ?_
  exact hQ _ _ _ _ _ _ _ ⟨rfl, rfl, rfl⟩ hP hS jd_L_shorten_29

set_option maxHeartbeats 4000000 in
theorem w_shorten_IS (l : Launch) (d : Nat → Nat) (D : va_G) (a : Nat → Nat) (n : Nat → Nat → Nat) (g : Nat → Nat) (p0 p1 p2 : Nat) (rm : Room) (hR : rm.frames ≤ 6 ∧ rm.locals ≤ 150 ∧ rm.cells = 1 ∧ rm.slots = 6) (hT : jThr l d D a n g jy_K_shorten jb_K_shorten 7 (some .int) rm [.ref (a 0), .long (lN p0), .int (nI p1), .int (nI p2)] "java/lang/IllegalStateException") : jWr l d D a n g jy_L_shorten jb_L_shorten 7 [(0, 13, 16, 15), (0, 13, 20, 13), (0, 13, 24, 51)] { frames := 7, cells := 1, slots := 6, locals := 200 } [.ref (a 0), .long (lN p0), .int (nI p1), .int (nI p2), .ref (a 51)] (fun v9 n2 g2 => some (.int (nI 1)) = v9 ∧ n = n2 ∧ g = g2) := by
  refine j_wr (by decide) (Nat.le_of_ble_eq_true rfl) ?_
  intro p e s m A below meth c ls Q X htab hJ hNc hP hS hl hQ
  have hl : lv_has ls 7 [(0, .ref (a 0)), (1, .long (lN p0)), (3, .int (nI p1)), (4, .int (nI p2)), (5, .ref (a 51))] := hl
  refine lv_aload X.1 X.2.1 jd_L_shorten_0 (lv_at hl 4 rfl) ?_
  refine lv_iconst (v := nI 0) X.1 X.2.1 jd_L_shorten_2 (by decide) ?_
  refine lv_aload_n X.1 X.2.1 jd_L_shorten_3 rfl (lv_at hl 0 rfl) ?_
  refine lv_lload_n X.1 X.2.1 jd_L_shorten_4 rfl (lv_at hl 1 rfl) ?_
  refine lv_iload_n X.1 X.2.1 jd_L_shorten_5 rfl (lv_at hl 2 rfl) ?_
  refine lv_iload X.1 X.2.1 jd_L_shorten_6 (lv_at hl 3 rfl) ?_
  refine j_thr X hP hS hJ hT jm_570 jm_568 jm_569 jm_1 jm_567 (i := 0) (by decide) rfl rfl (show jOk jy_K_shorten 3 by unfold jOk; decide +kernel) ⟨by show rm.frames + 1 ≤ 7; omega, by show 8 + (7 + 11) + rm.locals ≤ 200; omega⟩ ⟨hR.2.2.1, hR.2.2.2⟩ hl.1 rfl (Nat.le_of_ble_eq_true rfl) ⟨Nat.le_of_ble_eq_true rfl, Nat.le_of_ble_eq_true rfl⟩ jd_L_shorten_8 (fun ce q H locs hP hS hce hcv hcl => ?_)
  have hpass : ∀ z ∈ ([] : List ExceptionTableEntry), covers z 8 = false ∨ (z.catchType ≠ 0 ∧ ∃ nm : String, (Cond.classLink "KeyDistillerLaw" z.catchType nm).before A s = true ∧ va_Nc "java/lang/IllegalStateException" nm s) := by
    intro z hz
    exact absurd hz List.not_mem_nil
  refine vx_catch (own := "KeyDistillerLaw") (name := "java/lang/IllegalStateException") X.2.2.2.2.2.1 [] ⟨0, 13, 16, 15⟩ [⟨0, 13, 20, 13⟩, ⟨0, 13, 24, 51⟩] (by rw [htab]; rfl) hpass rfl (by decide) (X.2.2.2.2.2.2.1 _ jm_234) (va_Nw.use rfl (hJ.1 (Cond.castable "java/lang/IllegalStateException" "java/lang/IllegalStateException") (by decide))) hce hcv hcl ?_
  refine W.eq (g2 := F0 m 16 ls [.ref q]) rfl ?_
  refine lv_astore X.1 X.2.1 jd_L_shorten_16 hl (by decide) rfl (fun ls hl => ?_)
  have hl : lv_has ls 7 [(6, .ref q), (0, .ref (a 0)), (1, .long (lN p0)), (3, .int (nI p1)), (4, .int (nI p2)), (5, .ref (a 51))] := hl
  refine lv_iconst (v := nI 1) X.1 X.2.1 jd_L_shorten_18 (by decide) ?_
  exact hQ _ _ _ _ _ _ _ ⟨rfl, rfl, rfl⟩ hP hS jd_L_shorten_19

set_option maxHeartbeats 4000000 in
theorem w_shorten_IA (l : Launch) (d : Nat → Nat) (D : va_G) (a : Nat → Nat) (n : Nat → Nat → Nat) (g : Nat → Nat) (p0 p1 p2 : Nat) (rm : Room) (hR : rm.frames ≤ 6 ∧ rm.locals ≤ 150 ∧ rm.cells = 1 ∧ rm.slots = 6) (hT : jThr l d D a n g jy_K_shorten jb_K_shorten 7 (some .int) rm [.ref (a 0), .long (lN p0), .int (nI p1), .int (nI p2)] "java/lang/IllegalArgumentException") : jWr l d D a n g jy_L_shorten jb_L_shorten 7 [(0, 13, 16, 15), (0, 13, 20, 13), (0, 13, 24, 51)] { frames := 7, cells := 1, slots := 6, locals := 200 } [.ref (a 0), .long (lN p0), .int (nI p1), .int (nI p2), .ref (a 51)] (fun v9 n2 g2 => some (.int (nI 2)) = v9 ∧ n = n2 ∧ g = g2) := by
  refine j_wr (by decide) (Nat.le_of_ble_eq_true rfl) ?_
  intro p e s m A below meth c ls Q X htab hJ hNc hP hS hl hQ
  have hl : lv_has ls 7 [(0, .ref (a 0)), (1, .long (lN p0)), (3, .int (nI p1)), (4, .int (nI p2)), (5, .ref (a 51))] := hl
  refine lv_aload X.1 X.2.1 jd_L_shorten_0 (lv_at hl 4 rfl) ?_
  refine lv_iconst (v := nI 0) X.1 X.2.1 jd_L_shorten_2 (by decide) ?_
  refine lv_aload_n X.1 X.2.1 jd_L_shorten_3 rfl (lv_at hl 0 rfl) ?_
  refine lv_lload_n X.1 X.2.1 jd_L_shorten_4 rfl (lv_at hl 1 rfl) ?_
  refine lv_iload_n X.1 X.2.1 jd_L_shorten_5 rfl (lv_at hl 2 rfl) ?_
  refine lv_iload X.1 X.2.1 jd_L_shorten_6 (lv_at hl 3 rfl) ?_
  refine j_thr X hP hS hJ hT jm_570 jm_568 jm_569 jm_1 jm_567 (i := 0) (by decide) rfl rfl (show jOk jy_K_shorten 3 by unfold jOk; decide +kernel) ⟨by show rm.frames + 1 ≤ 7; omega, by show 8 + (7 + 11) + rm.locals ≤ 200; omega⟩ ⟨hR.2.2.1, hR.2.2.2⟩ hl.1 rfl (Nat.le_of_ble_eq_true rfl) ⟨Nat.le_of_ble_eq_true rfl, Nat.le_of_ble_eq_true rfl⟩ jd_L_shorten_8 (fun ce q H locs hP hS hce hcv hcl => ?_)
  have hpass : ∀ z ∈ ([⟨0, 13, 16, 15⟩] : List ExceptionTableEntry), covers z 8 = false ∨ (z.catchType ≠ 0 ∧ ∃ nm : String, (Cond.classLink "KeyDistillerLaw" z.catchType nm).before A s = true ∧ va_Nc "java/lang/IllegalArgumentException" nm s) := by
    intro z hz
    simp only [List.mem_cons, List.not_mem_nil, or_false] at hz
    rcases hz with rfl
    · exact Or.inr ⟨by decide, "java/lang/IllegalStateException", X.2.2.2.2.2.2.1 _ jm_234, hNc ("java/lang/IllegalArgumentException", "java/lang/IllegalStateException") (by decide)⟩
  refine vx_catch (own := "KeyDistillerLaw") (name := "java/lang/IllegalArgumentException") X.2.2.2.2.2.1 [⟨0, 13, 16, 15⟩] ⟨0, 13, 20, 13⟩ [⟨0, 13, 24, 51⟩] (by rw [htab]; rfl) hpass rfl (by decide) (X.2.2.2.2.2.2.1 _ jm_233) (va_Nw.use rfl (hJ.1 (Cond.castable "java/lang/IllegalArgumentException" "java/lang/IllegalArgumentException") (by decide))) hce hcv hcl ?_
  refine W.eq (g2 := F0 m 20 ls [.ref q]) rfl ?_
  refine lv_astore X.1 X.2.1 jd_L_shorten_20 hl (by decide) rfl (fun ls hl => ?_)
  have hl : lv_has ls 7 [(6, .ref q), (0, .ref (a 0)), (1, .long (lN p0)), (3, .int (nI p1)), (4, .int (nI p2)), (5, .ref (a 51))] := hl
  refine lv_iconst (v := nI 2) X.1 X.2.1 jd_L_shorten_22 (by decide) ?_
  exact hQ _ _ _ _ _ _ _ ⟨rfl, rfl, rfl⟩ hP hS jd_L_shorten_23

set_option maxHeartbeats 4000000 in
theorem w_shorten_UO (l : Launch) (d : Nat → Nat) (D : va_G) (a : Nat → Nat) (n : Nat → Nat → Nat) (g : Nat → Nat) (p0 p1 p2 : Nat) (rm : Room) (hR : rm.frames ≤ 6 ∧ rm.locals ≤ 150 ∧ rm.cells = 1 ∧ rm.slots = 6) (hT : jThr l d D a n g jy_K_shorten jb_K_shorten 7 (some .int) rm [.ref (a 0), .long (lN p0), .int (nI p1), .int (nI p2)] "java/lang/UnsupportedOperationException") : jWr l d D a n g jy_L_shorten jb_L_shorten 7 [(0, 13, 16, 15), (0, 13, 20, 13), (0, 13, 24, 51)] { frames := 7, cells := 1, slots := 6, locals := 200 } [.ref (a 0), .long (lN p0), .int (nI p1), .int (nI p2), .ref (a 51)] (fun v9 n2 g2 => some (.int (nI 3)) = v9 ∧ n = n2 ∧ g = g2) := by
  refine j_wr (by decide) (Nat.le_of_ble_eq_true rfl) ?_
  intro p e s m A below meth c ls Q X htab hJ hNc hP hS hl hQ
  have hl : lv_has ls 7 [(0, .ref (a 0)), (1, .long (lN p0)), (3, .int (nI p1)), (4, .int (nI p2)), (5, .ref (a 51))] := hl
  refine lv_aload X.1 X.2.1 jd_L_shorten_0 (lv_at hl 4 rfl) ?_
  refine lv_iconst (v := nI 0) X.1 X.2.1 jd_L_shorten_2 (by decide) ?_
  refine lv_aload_n X.1 X.2.1 jd_L_shorten_3 rfl (lv_at hl 0 rfl) ?_
  refine lv_lload_n X.1 X.2.1 jd_L_shorten_4 rfl (lv_at hl 1 rfl) ?_
  refine lv_iload_n X.1 X.2.1 jd_L_shorten_5 rfl (lv_at hl 2 rfl) ?_
  refine lv_iload X.1 X.2.1 jd_L_shorten_6 (lv_at hl 3 rfl) ?_
  refine j_thr X hP hS hJ hT jm_570 jm_568 jm_569 jm_1 jm_567 (i := 0) (by decide) rfl rfl (show jOk jy_K_shorten 3 by unfold jOk; decide +kernel) ⟨by show rm.frames + 1 ≤ 7; omega, by show 8 + (7 + 11) + rm.locals ≤ 200; omega⟩ ⟨hR.2.2.1, hR.2.2.2⟩ hl.1 rfl (Nat.le_of_ble_eq_true rfl) ⟨Nat.le_of_ble_eq_true rfl, Nat.le_of_ble_eq_true rfl⟩ jd_L_shorten_8 (fun ce q H locs hP hS hce hcv hcl => ?_)
  have hpass : ∀ z ∈ ([⟨0, 13, 16, 15⟩, ⟨0, 13, 20, 13⟩] : List ExceptionTableEntry), covers z 8 = false ∨ (z.catchType ≠ 0 ∧ ∃ nm : String, (Cond.classLink "KeyDistillerLaw" z.catchType nm).before A s = true ∧ va_Nc "java/lang/UnsupportedOperationException" nm s) := by
    intro z hz
    simp only [List.mem_cons, List.not_mem_nil, or_false] at hz
    rcases hz with rfl | rfl
    · exact Or.inr ⟨by decide, "java/lang/IllegalStateException", X.2.2.2.2.2.2.1 _ jm_234, hNc ("java/lang/UnsupportedOperationException", "java/lang/IllegalStateException") (by decide)⟩
    · exact Or.inr ⟨by decide, "java/lang/IllegalArgumentException", X.2.2.2.2.2.2.1 _ jm_233, hNc ("java/lang/UnsupportedOperationException", "java/lang/IllegalArgumentException") (by decide)⟩
  refine vx_catch (own := "KeyDistillerLaw") (name := "java/lang/UnsupportedOperationException") X.2.2.2.2.2.1 [⟨0, 13, 16, 15⟩, ⟨0, 13, 20, 13⟩] ⟨0, 13, 24, 51⟩ [] (by rw [htab]; rfl) hpass rfl (by decide) (X.2.2.2.2.2.2.1 _ jm_566) (va_Nw.use rfl (hJ.1 (Cond.castable "java/lang/UnsupportedOperationException" "java/lang/UnsupportedOperationException") (by decide))) hce hcv hcl ?_
  refine W.eq (g2 := F0 m 24 ls [.ref q]) rfl ?_
  refine lv_astore X.1 X.2.1 jd_L_shorten_24 hl (by decide) rfl (fun ls hl => ?_)
  have hl : lv_has ls 7 [(6, .ref q), (0, .ref (a 0)), (1, .long (lN p0)), (3, .int (nI p1)), (4, .int (nI p2)), (5, .ref (a 51))] := hl
  refine lv_iconst (v := nI 3) X.1 X.2.1 jd_L_shorten_26 (by decide) ?_
  exact hQ _ _ _ _ _ _ _ ⟨rfl, rfl, rfl⟩ hP hS jd_L_shorten_27

set_option maxHeartbeats 4000000 in
theorem w_key_r (l : Launch) (d : Nat → Nat) (D : va_G) (a : Nat → Nat) (n : Nat → Nat → Nat) (g : Nat → Nat) (hap : ∀ i j : Nat, i < 52 → j < 52 → a i = a j → i = j) (p0 p1 : Nat) (x : Nat) (hx : x < 2147483648) (rm : Room) (hR : rm.frames ≤ 6 ∧ rm.locals ≤ 150 ∧ rm.cells = 0 ∧ rm.slots = 0) (hK : jPure l d D a n g jy_K_key jb_K_key 6 (some .int) rm [.ref (a 0), .int (nI p0), .int (nI p1)] (some (.int (nI x)))) : jWr l d D a n g jy_L_key jb_L_key 5 [(0, 10, 13, 33)] { frames := 7, cells := 1, slots := 6, locals := 200 } [.ref (a 0), .int (nI p0), .int (nI p1), .ref (a 51)] (fun v9 n2 g2 => some (.int (nI 0)) = v9 ∧ n = n2 ∧ kg g 2 x = g2) := by
  refine j_wr (by decide) (Nat.le_of_ble_eq_true rfl) ?_
  intro p e s m A below meth c ls Q X htab hJ hNc hP hS hl hQ
  have hl : lv_has ls 5 [(0, .ref (a 0)), (1, .int (nI p0)), (2, .int (nI p1)), (3, .ref (a 51))] := hl
  refine lv_aload_n X.1 X.2.1 jd_L_key_0 rfl (lv_at hl 3 rfl) ?_
  refine lv_iconst (v := nI 0) X.1 X.2.1 jd_L_key_1 (by decide) ?_
  refine lv_aload_n X.1 X.2.1 jd_L_key_2 rfl (lv_at hl 0 rfl) ?_
  refine lv_iload_n X.1 X.2.1 jd_L_key_3 rfl (lv_at hl 1 rfl) ?_
  refine lv_iload_n X.1 X.2.1 jd_L_key_4 rfl (lv_at hl 2 rfl) ?_
  refine j_run (j_mkV X hP hK jU_b (j_pp X hP) jm_600 jm_598 jm_599 jm_1 jm_597 (i := 0) (by decide) rfl rfl (show jOk jy_K_key 2 by unfold jOk; decide +kernel) ⟨by show rm.frames + 1 ≤ 7; omega, by show 8 + (6 + 11) + rm.locals ≤ 200; omega⟩ ⟨hR.2.2.1, hR.2.2.2⟩ hl.1 rfl (Nat.le_of_ble_eq_true rfl) ⟨Nat.zero_le _, Nat.zero_le _⟩ jd_L_key_5) ?_
  refine W.eq (g2 := F0 m 8 ls [.int (nI x), .int (nI 0), .ref (a 51)]) rfl ?_
  refine lv_i2l (v := lN x) X.1 X.2.1 jd_L_key_8 (nI_l hx) ?_
  refine j_lst X hap hP hS x jd_L_key_9 (fun H locs hP hS => ?_)
  refine lv_goto X.1 X.2.1 jd_L_key_10 (tgt := 17) (by decide) ?_
  refine lv_iconst (v := nI 0) X.1 X.2.1 jd_L_key_17 (by decide) ?_
  refine W.widen (k := 1) (n := 6) (Nat.le_of_ble_eq_true rfl) (Nat.le_of_ble_eq_true rfl) ?_
  exact hQ _ _ _ _ _ _ _ ⟨rfl, rfl, rfl⟩ hP hS jd_L_key_18

set_option maxHeartbeats 4000000 in
theorem w_key_IO (l : Launch) (d : Nat → Nat) (D : va_G) (a : Nat → Nat) (n : Nat → Nat → Nat) (g : Nat → Nat) (p0 p1 : Nat) (rm : Room) (hR : rm.frames ≤ 6 ∧ rm.locals ≤ 150 ∧ rm.cells = 1 ∧ rm.slots = 6) (hT : jThr l d D a n g jy_K_key jb_K_key 6 (some .int) rm [.ref (a 0), .int (nI p0), .int (nI p1)] "java/lang/IndexOutOfBoundsException") : jWr l d D a n g jy_L_key jb_L_key 5 [(0, 10, 13, 33)] { frames := 7, cells := 1, slots := 6, locals := 200 } [.ref (a 0), .int (nI p0), .int (nI p1), .ref (a 51)] (fun v9 n2 g2 => some (.int (nI 1)) = v9 ∧ n = n2 ∧ g = g2) := by
  refine j_wr (by decide) (Nat.le_of_ble_eq_true rfl) ?_
  intro p e s m A below meth c ls Q X htab hJ hNc hP hS hl hQ
  have hl : lv_has ls 5 [(0, .ref (a 0)), (1, .int (nI p0)), (2, .int (nI p1)), (3, .ref (a 51))] := hl
  refine lv_aload_n X.1 X.2.1 jd_L_key_0 rfl (lv_at hl 3 rfl) ?_
  refine lv_iconst (v := nI 0) X.1 X.2.1 jd_L_key_1 (by decide) ?_
  refine lv_aload_n X.1 X.2.1 jd_L_key_2 rfl (lv_at hl 0 rfl) ?_
  refine lv_iload_n X.1 X.2.1 jd_L_key_3 rfl (lv_at hl 1 rfl) ?_
  refine lv_iload_n X.1 X.2.1 jd_L_key_4 rfl (lv_at hl 2 rfl) ?_
  refine j_thr X hP hS hJ hT jm_600 jm_598 jm_599 jm_1 jm_597 (i := 0) (by decide) rfl rfl (show jOk jy_K_key 2 by unfold jOk; decide +kernel) ⟨by show rm.frames + 1 ≤ 7; omega, by show 8 + (6 + 11) + rm.locals ≤ 200; omega⟩ ⟨hR.2.2.1, hR.2.2.2⟩ hl.1 rfl (Nat.le_of_ble_eq_true rfl) ⟨Nat.le_of_ble_eq_true rfl, Nat.le_of_ble_eq_true rfl⟩ jd_L_key_5 (fun ce q H locs hP hS hce hcv hcl => ?_)
  have hpass : ∀ z ∈ ([] : List ExceptionTableEntry), covers z 5 = false ∨ (z.catchType ≠ 0 ∧ ∃ nm : String, (Cond.classLink "KeyDistillerLaw" z.catchType nm).before A s = true ∧ va_Nc "java/lang/IndexOutOfBoundsException" nm s) := by
    intro z hz
    exact absurd hz List.not_mem_nil
  refine vx_catch (own := "KeyDistillerLaw") (name := "java/lang/IndexOutOfBoundsException") X.2.2.2.2.2.1 [] ⟨0, 10, 13, 33⟩ [] (by rw [htab]; rfl) hpass rfl (by decide) (X.2.2.2.2.2.2.1 _ jm_464) (va_Nw.use rfl (hJ.1 (Cond.castable "java/lang/IndexOutOfBoundsException" "java/lang/IndexOutOfBoundsException") (by decide))) hce hcv hcl ?_
  refine W.eq (g2 := F0 m 13 ls [.ref q]) rfl ?_
  refine lv_astore X.1 X.2.1 jd_L_key_13 hl (by decide) rfl (fun ls hl => ?_)
  have hl : lv_has ls 5 [(4, .ref q), (0, .ref (a 0)), (1, .int (nI p0)), (2, .int (nI p1)), (3, .ref (a 51))] := hl
  refine lv_iconst (v := nI 1) X.1 X.2.1 jd_L_key_15 (by decide) ?_
  exact hQ _ _ _ _ _ _ _ ⟨rfl, rfl, rfl⟩ hP hS jd_L_key_16
