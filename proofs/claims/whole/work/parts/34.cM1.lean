set_option maxHeartbeats 4000000 in
theorem c_M_thrown (l : Launch) (d : Nat → Nat) (D : va_G) (a : Nat → Nat) (n : Nat → Nat → Nat) (g : Nat → Nat)  : jPure l d D a n g jy_M_thrown jb_M_thrown 1 (some .int) { frames := 0, cells := 0, slots := 0, locals := 0 } [.ref (a 33)] (some (.int (nI (n 33 0)))) := by
  refine jq_I (by decide) (Nat.le_of_ble_eq_true rfl) ?_
  intro p e s m A below meth c ls Q X hP hl hQ
  have hl : lv_has ls 1 [(0, .ref (a 33))] := hl
  refine lv_aload_n X.1 X.2.1 jd_M_thrown_0 rfl (lv_at hl 0 rfl) ?_
  refine jg_M_66_33 X hP jd_M_thrown_1 ?_
  exact kn_to (by first | rfl | omega | (split <;> omega)) (hQ _ _ jd_M_thrown_4)

set_option maxHeartbeats 4000000 in
theorem c_M_isStation (l : Launch) (d : Nat → Nat) (D : va_G) (a : Nat → Nat) (n : Nat → Nat → Nat) (g : Nat → Nat) (x : Nat) (hx : x < 4294967296) : jPure l d D a n g jy_M_isStation jb_M_isStation 1 (some .boolean) { frames := 0, cells := 0, slots := 0, locals := 0 } [.int (nI x)] (some (.int (nI (if x < 2 then 1 else 0)))) := by
  refine jq_Z (by first | omega | (split <;> omega)) (by decide) (Nat.le_of_ble_eq_true rfl) ?_
  intro p e s m A below meth c ls Q X hP hl hQ
  have hl : lv_has ls 1 [(0, .int (nI x))] := hl
  refine lv_iload_n X.1 X.2.1 jd_M_isStation_0 rfl (lv_at hl 0 rfl) ?_
  refine kn_eq0 X.1 X.2.1 jd_M_isStation_1 (tgt := 9) (by decide) (by omega) (fun h1 => ?_) (fun h1 => ?_)
  · skip
    refine lv_iconst (v := nI 1) X.1 X.2.1 jd_M_isStation_9 (by decide) ?_
    refine lv_goto X.1 X.2.1 jd_M_isStation_10 (tgt := 14) (by decide) ?_
    exact kn_to (by first | rfl | omega | (split <;> omega)) (hQ _ _ jd_M_isStation_14)
  · skip
    refine lv_iload_n X.1 X.2.1 jd_M_isStation_4 rfl (lv_at hl 0 rfl) ?_
    refine lv_iconst (v := nI 1) X.1 X.2.1 jd_M_isStation_5 (by decide) ?_
    refine kn_cne X.1 X.2.1 jd_M_isStation_6 (tgt := 13) (by decide) (by omega) (fun h6 => ?_) (fun h6 => ?_)
    · skip
      refine lv_iconst (v := nI 0) X.1 X.2.1 jd_M_isStation_13 (by decide) ?_
      exact kn_to (by first | rfl | omega | (split <;> omega)) (hQ _ _ jd_M_isStation_14)
    · skip
      refine lv_iconst (v := nI 1) X.1 X.2.1 jd_M_isStation_9 (by decide) ?_
      refine lv_goto X.1 X.2.1 jd_M_isStation_10 (tgt := 14) (by decide) ?_
      exact kn_to (by first | rfl | omega | (split <;> omega)) (hQ _ _ jd_M_isStation_14)

set_option maxHeartbeats 4000000 in
theorem c_M_within (l : Launch) (d : Nat → Nat) (D : va_G) (a : Nat → Nat) (n : Nat → Nat → Nat) (g : Nat → Nat) (x y z : Nat) (hx : x < 4294967296) (hy : y < 2147483648) (hz : z < 2147483648) : jPure l d D a n g jy_M_within jb_M_within 3 (some .boolean) { frames := 0, cells := 0, slots := 0, locals := 0 } [.int (nI x), .int (nI y), .int (nI z)] (some (.int (nI (if y ≤ x ∧ x ≤ z then 1 else 0)))) := by
  refine jq_Z (by first | omega | (split <;> omega)) (by decide) (Nat.le_of_ble_eq_true rfl) ?_
  intro p e s m A below meth c ls Q X hP hl hQ
  have hl : lv_has ls 3 [(0, .int (nI x)), (1, .int (nI y)), (2, .int (nI z))] := hl
  refine lv_iload_n X.1 X.2.1 jd_M_within_0 rfl (lv_at hl 0 rfl) ?_
  refine lv_iload_n X.1 X.2.1 jd_M_within_1 rfl (lv_at hl 1 rfl) ?_
  refine kn_xlt X.1 X.2.1 jd_M_within_2 (tgt := 14) (by decide) (by omega) (fun h2 => ?_) (fun h2 => ?_)
  · skip
    refine lv_iconst (v := nI 0) X.1 X.2.1 jd_M_within_14 (by decide) ?_
    exact kn_to (by first | rfl | omega | (split <;> omega)) (hQ _ _ jd_M_within_15)
  · skip
    refine lv_iload_n X.1 X.2.1 jd_M_within_5 rfl (lv_at hl 0 rfl) ?_
    refine lv_iload_n X.1 X.2.1 jd_M_within_6 rfl (lv_at hl 2 rfl) ?_
    refine kn_xgt X.1 X.2.1 jd_M_within_7 (tgt := 14) (by decide) (by omega) (fun h7 => ?_) (fun h7 => ?_)
    · skip
      refine lv_iconst (v := nI 0) X.1 X.2.1 jd_M_within_14 (by decide) ?_
      exact kn_to (by first | rfl | omega | (split <;> omega)) (hQ _ _ jd_M_within_15)
    · skip
      refine lv_iconst (v := nI 1) X.1 X.2.1 jd_M_within_10 (by decide) ?_
      refine lv_goto X.1 X.2.1 jd_M_within_11 (tgt := 15) (by decide) ?_
      exact kn_to (by first | rfl | omega | (split <;> omega)) (hQ _ _ jd_M_within_15)

theorem kn_sm1 {x : Nat} (hx : x < 2147483648) : nI 4294967295 < nI x := by
  rw [Int32.lt_iff_toInt_lt, kn_toInt (by omega), kn_toInt (by omega)]
  rw [if_neg (by decide), if_pos hx]
  omega

set_option maxHeartbeats 4000000 in
theorem c_M_within_m (l : Launch) (d : Nat → Nat) (D : va_G) (a : Nat → Nat) (n : Nat → Nat → Nat) (g : Nat → Nat) (x : Nat) (hx : x < 4294967296) : jPure l d D a n g jy_M_within jb_M_within 3 (some .boolean) { frames := 0, cells := 0, slots := 0, locals := 0 } [.int (nI x), .int (nI 0), .int (nI 4294967295)] (some (.int (nI 0))) := by
  refine jq_Z (by first | omega | (split <;> omega)) (by decide) (Nat.le_of_ble_eq_true rfl) ?_
  intro p e s m A below meth c ls Q X hP hl hQ
  have hl : lv_has ls 3 [(0, .int (nI x)), (1, .int (nI 0)), (2, .int (nI 4294967295))] := hl
  refine lv_iload_n X.1 X.2.1 jd_M_within_0 rfl (lv_at hl 0 rfl) ?_
  refine lv_iload_n X.1 X.2.1 jd_M_within_1 rfl (lv_at hl 1 rfl) ?_
  refine kn_xlt X.1 X.2.1 jd_M_within_2 (tgt := 14) (by decide) (by omega) (fun h2 => ?_) (fun h2 => ?_)
  · skip
    refine lv_iconst (v := nI 0) X.1 X.2.1 jd_M_within_14 (by decide) ?_
    exact kn_to (by first | rfl | omega | (split <;> omega)) (hQ _ _ jd_M_within_15)
  · skip
    refine lv_iload_n X.1 X.2.1 jd_M_within_5 rfl (lv_at hl 0 rfl) ?_
    refine lv_iload_n X.1 X.2.1 jd_M_within_6 rfl (lv_at hl 2 rfl) ?_
    refine lv_icmp_gt X.1 X.2.1 jd_M_within_7 (tgt := 14) (by decide) (fun h7 => ?_) (fun h7 => absurd (kn_sm1 h2.1) h7)
    refine lv_iconst (v := nI 0) X.1 X.2.1 jd_M_within_14 (by decide) ?_
    exact kn_to (by first | rfl | omega | (split <;> omega)) (hQ _ _ jd_M_within_15)

theorem c_M_withinD (l : Launch) (d : Nat → Nat) (D : va_G) (a : Nat → Nat) (n : Nat → Nat → Nat) (g : Nat → Nat) (x h : Nat) (hx : x < 4294967296) (hh : h < 2147483648) : jPure l d D a n g jy_M_within jb_M_within 3 (some .boolean) { frames := 0, cells := 0, slots := 0, locals := 0 } [.int (nI x), .int (nI 0), .int (nI ((h + 4294967296 - 1) % 4294967296))] (some (.int (nI (if x < h then 1 else 0)))) := by
  by_cases h0 : h = 0
  · subst h0
    exact c_M_within_m l d D a n g x hx
  · rw [show (h + 4294967296 - 1) % 4294967296 = h - 1 by omega, show (if x < h then 1 else 0) = (if 0 ≤ x ∧ x ≤ h - 1 then 1 else 0) from by split <;> split <;> omega]
    exact c_M_within l d D a n g x 0 (h - 1) hx (by decide) (by omega)

set_option maxHeartbeats 4000000 in
theorem c_M_refuse (l : Launch) (d : Nat → Nat) (D : va_G) (a : Nat → Nat) (n : Nat → Nat → Nat) (g : Nat → Nat) (hap : ∀ i j : Nat, i < 52 → j < 52 → a i = a j → i = j) (x : Nat) : jEff l d D a n g jy_M_refuse jb_M_refuse 2 (some .int) { frames := 0, cells := 0, slots := 0, locals := 0 } [.ref (a 33), .int (nI x)] (fun v9 n2 g2 => some (.int (nI 0)) = v9 ∧ ku n 33 0 x = n2 ∧ g = g2) := by
  refine je_I (by decide) (Nat.le_of_ble_eq_true rfl) ?_
  intro p e s m A below meth c ls Q X hP hS hl hQ
  have hl : lv_has ls 2 [(0, .ref (a 33)), (1, .int (nI x))] := hl
  refine lv_aload_n X.1 X.2.1 jd_M_refuse_0 rfl (lv_at hl 0 rfl) ?_
  refine lv_iload_n X.1 X.2.1 jd_M_refuse_1 rfl (lv_at hl 1 rfl) ?_
  refine jp_M_66_33 X hap hP hS jd_M_refuse_2 (fun H locs hP hS => ?_)
  refine lv_iconst (v := nI 0) X.1 X.2.1 jd_M_refuse_5 (by decide) ?_
  exact hQ _ _ _ _ _ _ _ (⟨rfl, rfl, rfl⟩) hP hS jd_M_refuse_6

set_option maxHeartbeats 4000000 in
theorem c_M_length_y (l : Launch) (d : Nat → Nat) (D : va_G) (a : Nat → Nat) (n : Nat → Nat → Nat) (g : Nat → Nat) (hap : ∀ i j : Nat, i < 52 → j < 52 → a i = a j → i = j) (hB : NB n) (hs : ¬ n 33 1 = 0) : jEff l d D a n g jy_M_length jb_M_length 1 (some .int) { frames := 0, cells := 0, slots := 0, locals := 0 } [.ref (a 33)] (fun v9 n2 g2 => some (.int (nI (n 33 2))) = v9 ∧ (ku n 33 0 0) = n2 ∧ g = g2) := by
  refine je_I (by decide) (Nat.le_of_ble_eq_true rfl) ?_
  intro p e s m A below meth c ls Q X hP hS hl hQ
  have hl : lv_has ls 1 [(0, .ref (a 33))] := hl
  refine lv_aload_n X.1 X.2.1 jd_M_length_0 rfl (lv_at hl 0 rfl) ?_
  refine lv_iconst (v := nI 0) X.1 X.2.1 jd_M_length_1 (by decide) ?_
  refine jp_M_66_33 X hap hP hS jd_M_length_2 (fun H locs hP hS => ?_)
  refine lv_aload_n X.1 X.2.1 jd_M_length_5 rfl (lv_at hl 0 rfl) ?_
  refine jg_M_77_33 X hP jd_M_length_6 ?_
  refine kn_to (y := n 33 1) (rfl) ?_
  refine kn_eq0 X.1 X.2.1 jd_M_length_9 (tgt := 19) (by decide) (hB _ _) (fun h9 => absurd h9 (by first | exact hs | exact fun q => q hs)) (fun h9 => ?_)
  refine lv_aload_n X.1 X.2.1 jd_M_length_12 rfl (lv_at hl 0 rfl) ?_
  refine jg_M_85_33 X hP jd_M_length_13 ?_
  refine kn_to (y := n 33 2) (rfl) ?_
  refine lv_goto X.1 X.2.1 jd_M_length_16 (tgt := 20) (by decide) ?_
  exact hQ _ _ _ _ _ _ _ (⟨rfl, rfl, rfl⟩) hP hS jd_M_length_20

set_option maxHeartbeats 4000000 in
theorem c_M_length_n (l : Launch) (d : Nat → Nat) (D : va_G) (a : Nat → Nat) (n : Nat → Nat → Nat) (g : Nat → Nat) (hap : ∀ i j : Nat, i < 52 → j < 52 → a i = a j → i = j) (hB : NB n) (hs : n 33 1 = 0) : jEff l d D a n g jy_M_length jb_M_length 1 (some .int) { frames := 0, cells := 0, slots := 0, locals := 0 } [.ref (a 33)] (fun v9 n2 g2 => some (.int (nI 4294967295)) = v9 ∧ (ku n 33 0 0) = n2 ∧ g = g2) := by
  refine je_I (by decide) (Nat.le_of_ble_eq_true rfl) ?_
  intro p e s m A below meth c ls Q X hP hS hl hQ
  have hl : lv_has ls 1 [(0, .ref (a 33))] := hl
  refine lv_aload_n X.1 X.2.1 jd_M_length_0 rfl (lv_at hl 0 rfl) ?_
  refine lv_iconst (v := nI 0) X.1 X.2.1 jd_M_length_1 (by decide) ?_
  refine jp_M_66_33 X hap hP hS jd_M_length_2 (fun H locs hP hS => ?_)
  refine lv_aload_n X.1 X.2.1 jd_M_length_5 rfl (lv_at hl 0 rfl) ?_
  refine jg_M_77_33 X hP jd_M_length_6 ?_
  refine kn_to (y := n 33 1) (rfl) ?_
  refine kn_eq0 X.1 X.2.1 jd_M_length_9 (tgt := 19) (by decide) (hB _ _) (fun h9 => ?_) (fun h9 => absurd h9 (by first | exact hs | exact fun q => q hs))
  refine lv_iconst (v := nI 4294967295) X.1 X.2.1 jd_M_length_19 (by decide) ?_
  exact hQ _ _ _ _ _ _ _ (⟨rfl, rfl, rfl⟩) hP hS jd_M_length_20

set_option maxHeartbeats 4000000 in
theorem c_M_sampled_0 (l : Launch) (d : Nat → Nat) (D : va_G) (a : Nat → Nat) (n : Nat → Nat → Nat) (g : Nat → Nat) (hap : ∀ i j : Nat, i < 52 → j < 52 → a i = a j → i = j)  : jEff l d D a n g jy_M_sampled jb_M_sampled 2 (some .int) { frames := 0, cells := 0, slots := 0, locals := 0 } [.ref (a 33), .int (nI 0)] (fun v9 n2 g2 => some (.int (nI (n 33 3))) = v9 ∧ (ku n 33 0 0) = n2 ∧ g = g2) := by
  refine je_I (by decide) (Nat.le_of_ble_eq_true rfl) ?_
  intro p e s m A below meth c ls Q X hP hS hl hQ
  have hl : lv_has ls 2 [(0, .ref (a 33)), (1, .int (nI 0))] := hl
  refine lv_aload_n X.1 X.2.1 jd_M_sampled_0 rfl (lv_at hl 0 rfl) ?_
  refine lv_iconst (v := nI 0) X.1 X.2.1 jd_M_sampled_1 (by decide) ?_
  refine jp_M_66_33 X hap hP hS jd_M_sampled_2 (fun H locs hP hS => ?_)
  refine lv_iload_n X.1 X.2.1 jd_M_sampled_5 rfl (lv_at hl 1 rfl) ?_
  refine kn_ne0 X.1 X.2.1 jd_M_sampled_6 (tgt := 16) (by decide) (by omega) (fun h6 => absurd h6 (by decide)) (fun h6 => ?_)
  refine lv_aload_n X.1 X.2.1 jd_M_sampled_9 rfl (lv_at hl 0 rfl) ?_
  refine jg_M_111_33 X hP jd_M_sampled_10 ?_
  refine lv_goto X.1 X.2.1 jd_M_sampled_13 (tgt := 29) (by decide) ?_
  exact hQ _ _ _ _ _ _ _ (⟨rfl, rfl, rfl⟩) hP hS jd_M_sampled_29

set_option maxHeartbeats 4000000 in
theorem c_M_sampled_1 (l : Launch) (d : Nat → Nat) (D : va_G) (a : Nat → Nat) (n : Nat → Nat → Nat) (g : Nat → Nat) (hap : ∀ i j : Nat, i < 52 → j < 52 → a i = a j → i = j)  : jEff l d D a n g jy_M_sampled jb_M_sampled 2 (some .int) { frames := 0, cells := 0, slots := 0, locals := 0 } [.ref (a 33), .int (nI 1)] (fun v9 n2 g2 => some (.int (nI (n 33 4))) = v9 ∧ (ku n 33 0 0) = n2 ∧ g = g2) := by
  refine je_I (by decide) (Nat.le_of_ble_eq_true rfl) ?_
  intro p e s m A below meth c ls Q X hP hS hl hQ
  have hl : lv_has ls 2 [(0, .ref (a 33)), (1, .int (nI 1))] := hl
  refine lv_aload_n X.1 X.2.1 jd_M_sampled_0 rfl (lv_at hl 0 rfl) ?_
  refine lv_iconst (v := nI 0) X.1 X.2.1 jd_M_sampled_1 (by decide) ?_
  refine jp_M_66_33 X hap hP hS jd_M_sampled_2 (fun H locs hP hS => ?_)
  refine lv_iload_n X.1 X.2.1 jd_M_sampled_5 rfl (lv_at hl 1 rfl) ?_
  refine kn_ne0 X.1 X.2.1 jd_M_sampled_6 (tgt := 16) (by decide) (by omega) (fun h6 => ?_) (fun h6 => absurd h6 (by decide))
  refine lv_iload_n X.1 X.2.1 jd_M_sampled_16 rfl (lv_at hl 1 rfl) ?_
  refine lv_iconst (v := nI 1) X.1 X.2.1 jd_M_sampled_17 (by decide) ?_
  refine kn_cne X.1 X.2.1 jd_M_sampled_18 (tgt := 28) (by decide) (by omega) (fun h18 => absurd h18 (by decide)) (fun h18 => ?_)
  refine lv_aload_n X.1 X.2.1 jd_M_sampled_21 rfl (lv_at hl 0 rfl) ?_
  refine jg_M_114_33 X hP jd_M_sampled_22 ?_
  refine lv_goto X.1 X.2.1 jd_M_sampled_25 (tgt := 29) (by decide) ?_
  exact hQ _ _ _ _ _ _ _ (⟨rfl, rfl, rfl⟩) hP hS jd_M_sampled_29

set_option maxHeartbeats 4000000 in
theorem c_M_sampled_x (l : Launch) (d : Nat → Nat) (D : va_G) (a : Nat → Nat) (n : Nat → Nat → Nat) (g : Nat → Nat) (hap : ∀ i j : Nat, i < 52 → j < 52 → a i = a j → i = j) (x : Nat) (hx : x < 4294967296) (hx2 : 2 ≤ x) : jEff l d D a n g jy_M_sampled jb_M_sampled 2 (some .int) { frames := 0, cells := 0, slots := 0, locals := 0 } [.ref (a 33), .int (nI x)] (fun v9 n2 g2 => some (.int (nI 4294967295)) = v9 ∧ (ku n 33 0 0) = n2 ∧ g = g2) := by
  refine je_I (by decide) (Nat.le_of_ble_eq_true rfl) ?_
  intro p e s m A below meth c ls Q X hP hS hl hQ
  have hl : lv_has ls 2 [(0, .ref (a 33)), (1, .int (nI x))] := hl
  refine lv_aload_n X.1 X.2.1 jd_M_sampled_0 rfl (lv_at hl 0 rfl) ?_
  refine lv_iconst (v := nI 0) X.1 X.2.1 jd_M_sampled_1 (by decide) ?_
  refine jp_M_66_33 X hap hP hS jd_M_sampled_2 (fun H locs hP hS => ?_)
  refine lv_iload_n X.1 X.2.1 jd_M_sampled_5 rfl (lv_at hl 1 rfl) ?_
  refine kn_ne0 X.1 X.2.1 jd_M_sampled_6 (tgt := 16) (by decide) (by omega) (fun h6 => ?_) (fun h6 => absurd h6 (by omega))
  refine lv_iload_n X.1 X.2.1 jd_M_sampled_16 rfl (lv_at hl 1 rfl) ?_
  refine lv_iconst (v := nI 1) X.1 X.2.1 jd_M_sampled_17 (by decide) ?_
  refine kn_cne X.1 X.2.1 jd_M_sampled_18 (tgt := 28) (by decide) (by omega) (fun h18 => ?_) (fun h18 => absurd h18 (by omega))
  refine lv_iconst (v := nI 4294967295) X.1 X.2.1 jd_M_sampled_28 (by decide) ?_
  exact hQ _ _ _ _ _ _ _ (⟨rfl, rfl, rfl⟩) hP hS jd_M_sampled_29

set_option maxHeartbeats 4000000 in
theorem c_M_done (l : Launch) (d : Nat → Nat) (D : va_G) (a : Nat → Nat) (n : Nat → Nat → Nat) (g : Nat → Nat) (hap : ∀ i j : Nat, i < 52 → j < 52 → a i = a j → i = j) (hB : NB n)  : jEff l d D a n g jy_M_done jb_M_done 1 (some .boolean) { frames := 0, cells := 0, slots := 0, locals := 0 } [.ref (a 33)] (fun v9 n2 g2 => some (.int (nI (if n 33 7 = 4 then 1 else 0))) = v9 ∧ (ku n 33 0 0) = n2 ∧ g = g2) := by
  refine je_Z (by decide) (Nat.le_of_ble_eq_true rfl) ?_
  intro p e s m A below meth c ls Q X hP hS hl hQ
  have hl : lv_has ls 1 [(0, .ref (a 33))] := hl
  refine lv_aload_n X.1 X.2.1 jd_M_done_0 rfl (lv_at hl 0 rfl) ?_
  refine lv_iconst (v := nI 0) X.1 X.2.1 jd_M_done_1 (by decide) ?_
  refine jp_M_66_33 X hap hP hS jd_M_done_2 (fun H locs hP hS => ?_)
  refine lv_aload_n X.1 X.2.1 jd_M_done_5 rfl (lv_at hl 0 rfl) ?_
  refine jg_M_32_33 X hP jd_M_done_6 ?_
  refine kn_to (y := n 33 7) (rfl) ?_
  refine lv_iconst (v := nI 4) X.1 X.2.1 jd_M_done_9 (by decide) ?_
  refine kn_cne X.1 X.2.1 jd_M_done_10 (tgt := 17) (by decide) (⟨hB _ _, by decide⟩) (fun h10 => ?_) (fun h10 => ?_)
  · skip
    refine lv_iconst (v := nI 0) X.1 X.2.1 jd_M_done_17 (by decide) ?_
    exact hQ _ _ _ _ _ _ _ (by decide) (by first | (rw [if_pos h10]; exact ⟨rfl, rfl, rfl⟩) | (rw [if_neg h10]; exact ⟨rfl, rfl, rfl⟩)) hP hS jd_M_done_18
  · skip
    refine lv_iconst (v := nI 1) X.1 X.2.1 jd_M_done_13 (by decide) ?_
    refine lv_goto X.1 X.2.1 jd_M_done_14 (tgt := 18) (by decide) ?_
    exact hQ _ _ _ _ _ _ _ (by decide) (by first | (rw [if_pos h10]; exact ⟨rfl, rfl, rfl⟩) | (rw [if_neg h10]; exact ⟨rfl, rfl, rfl⟩)) hP hS jd_M_done_18

set_option maxHeartbeats 4000000 in
theorem c_M_pass (l : Launch) (d : Nat → Nat) (D : va_G) (a : Nat → Nat) (n : Nat → Nat → Nat) (g : Nat → Nat) (hap : ∀ i j : Nat, i < 52 → j < 52 → a i = a j → i = j)  : jEff l d D a n g jy_M_pass jb_M_pass 1 (some .int) { frames := 0, cells := 0, slots := 0, locals := 0 } [.ref (a 33)] (fun v9 n2 g2 => some (.int (nI (n 33 7))) = v9 ∧ (ku n 33 0 0) = n2 ∧ g = g2) := by
  refine je_I (by decide) (Nat.le_of_ble_eq_true rfl) ?_
  intro p e s m A below meth c ls Q X hP hS hl hQ
  have hl : lv_has ls 1 [(0, .ref (a 33))] := hl
  refine lv_aload_n X.1 X.2.1 jd_M_pass_0 rfl (lv_at hl 0 rfl) ?_
  refine lv_iconst (v := nI 0) X.1 X.2.1 jd_M_pass_1 (by decide) ?_
  refine jp_M_66_33 X hap hP hS jd_M_pass_2 (fun H locs hP hS => ?_)
  refine lv_aload_n X.1 X.2.1 jd_M_pass_5 rfl (lv_at hl 0 rfl) ?_
  refine jg_M_32_33 X hP jd_M_pass_6 ?_
  exact hQ _ _ _ _ _ _ _ (⟨rfl, rfl, rfl⟩) hP hS jd_M_pass_9

set_option maxHeartbeats 4000000 in
theorem c_M_disclosed (l : Launch) (d : Nat → Nat) (D : va_G) (a : Nat → Nat) (n : Nat → Nat → Nat) (g : Nat → Nat) (hap : ∀ i j : Nat, i < 52 → j < 52 → a i = a j → i = j)  : jEff l d D a n g jy_M_disclosed jb_M_disclosed 1 (some .int) { frames := 0, cells := 0, slots := 0, locals := 0 } [.ref (a 33)] (fun v9 n2 g2 => some (.int (nI (n 33 10))) = v9 ∧ (ku n 33 0 0) = n2 ∧ g = g2) := by
  refine je_I (by decide) (Nat.le_of_ble_eq_true rfl) ?_
  intro p e s m A below meth c ls Q X hP hS hl hQ
  have hl : lv_has ls 1 [(0, .ref (a 33))] := hl
  refine lv_aload_n X.1 X.2.1 jd_M_disclosed_0 rfl (lv_at hl 0 rfl) ?_
  refine lv_iconst (v := nI 0) X.1 X.2.1 jd_M_disclosed_1 (by decide) ?_
  refine jp_M_66_33 X hap hP hS jd_M_disclosed_2 (fun H locs hP hS => ?_)
  refine lv_aload_n X.1 X.2.1 jd_M_disclosed_5 rfl (lv_at hl 0 rfl) ?_
  refine jg_M_166_33 X hP jd_M_disclosed_6 ?_
  exact hQ _ _ _ _ _ _ _ (⟨rfl, rfl, rfl⟩) hP hS jd_M_disclosed_9

set_option maxHeartbeats 4000000 in
theorem c_M_turn (l : Launch) (d : Nat → Nat) (D : va_G) (a : Nat → Nat) (n : Nat → Nat → Nat) (g : Nat → Nat) (hap : ∀ i j : Nat, i < 52 → j < 52 → a i = a j → i = j)  : jEff l d D a n g jy_M_turn jb_M_turn 1 none { frames := 0, cells := 0, slots := 0, locals := 0 } [.ref (a 33)] (fun v9 n2 g2 => none = v9 ∧ n = n2 ∧ kg g 1 (advF (g 1)) = g2) := by
  refine je_V (by decide) (Nat.le_of_ble_eq_true rfl) ?_
  intro p e s m A below meth c ls Q X hP hS hl hQ
  have hl : lv_has ls 1 [(0, .ref (a 33))] := hl
  refine lv_aload_n X.1 X.2.1 jd_M_turn_0 rfl (lv_at hl 0 rfl) ?_
  refine lv_aload_n X.1 X.2.1 jd_M_turn_1 rfl (lv_at hl 0 rfl) ?_
  refine jg_M_88_33 X hP jd_M_turn_2 ?_
  refine lv_ldc2 (v := lN 6364136223846793005) X.1 X.2.1 X.2.2.2.2.2.1 (X.2.2.2.2.2.2.1 _ jm_744) jd_M_turn_5 ?_
  refine kn_lmul X.1 X.2.1 jd_M_turn_8 ?_
  refine lv_ldc2 (v := lN 1442695040888963407) X.1 X.2.1 X.2.2.2.2.2.1 (X.2.2.2.2.2.2.1 _ jm_745) jd_M_turn_9 ?_
  refine kn_ladd X.1 X.2.1 jd_M_turn_12 ?_
  refine kn_tol (y := advF (g 1)) (adv_lN _) ?_
  refine jp_M_88_33 X hap hP hS jd_M_turn_13 (fun H locs hP hS => ?_)
  exact hQ _ _ _ _ _ _ (⟨rfl, rfl, rfl⟩) hP hS jd_M_turn_16

def rrF (z k j : Nat) : Nat := if j = 0 then limF k else itF z j / 2 ^ 33
theorem rr_0 {z k : Nat} : rrF z k 0 = limF k := if_pos rfl
theorem rr_s {z k j : Nat} : rrF z k (j + 1) = itF z (j + 1) / 2 ^ 33 := if_neg (by omega)
theorem rr_rej {z k j : Nat} (h : j < dbK z k + 1) : limF k ≤ rrF z k j := by
  cases j with
  | zero => rw [rr_0]; exact Nat.le_refl _
  | succ j => rw [rr_s]; exact db_rej (by omega)
theorem rr_lt {z k : Nat} : ∀ j, rrF z k j < 9223372036854775808
  | 0 => by have := limF_le (k := k); rw [rr_0]; omega
  | j + 1 => by have := itF_lt z j; rw [rr_s]; omega
theorem lim_sub {k : Nat} : 2147483648 - 2147483648 % k = limF k := by
  have := Nat.div_add_mod 2147483648 k
  unfold limF
  rw [Nat.mul_comm] at this
  omega

set_option maxHeartbeats 4000000 in
theorem c_M_draw (l : Launch) (d : Nat → Nat) (D : va_G) (a : Nat → Nat) (n : Nat → Nat → Nat) (g : Nat → Nat) (hap : ∀ i j : Nat, i < 52 → j < 52 → a i = a j → i = j) (z k0 : Nat) (hz : g 1 = z) (h2 : 2 ≤ k0) (hk0 : k0 ≤ 128) : jEff l d D a n g jy_M_draw jb_M_draw 8 (some .int) { frames := 1, cells := 0, slots := 0, locals := 20 } [.ref (a 33), .int (nI k0)] (fun v9 n2 g2 => some (.int (nI (drV z k0))) = v9 ∧ n = n2 ∧ kg g 1 (drS z k0) = g2) := by
  refine je_I (by decide) (Nat.le_of_ble_eq_true rfl) ?_
  intro p e s m A below meth c ls Q X hP hS hl hQ
  have hl : lv_has ls 8 [(0, .ref (a 33)), (1, .int (nI k0))] := hl
  refine lv_ldc2 (v := lN 2147483648) X.1 X.2.1 X.2.2.2.2.2.1 (X.2.2.2.2.2.2.1 _ jm_739) jd_M_draw_0 ?_
  refine lv_lstore_n X.1 X.2.1 jd_M_draw_3 rfl hl (by decide) rfl (fun ls hl => ?_)
  have hl : lv_has ls 8 [(2, .long (lN 2147483648)), (0, .ref (a 33)), (1, .int (nI k0))] := hl
  refine lv_lload_n X.1 X.2.1 jd_M_draw_4 rfl (lv_at hl 0 rfl) ?_
  refine lv_lload_n X.1 X.2.1 jd_M_draw_5 rfl (lv_at hl 0 rfl) ?_
  refine lv_iload_n X.1 X.2.1 jd_M_draw_6 rfl (lv_at hl 2 rfl) ?_
  refine lv_i2l (v := lN k0) X.1 X.2.1 jd_M_draw_7 (nI_l (by omega)) ?_
  refine kn_lrem X.1 X.2.1 jd_M_draw_8 (by omega) ?_
  refine kn_lsub X.1 X.2.1 jd_M_draw_9 (Nat.mod_le _ _) ?_
  refine kn_tol (y := limF k0) (by rw [lim_sub]) ?_
  refine lv_lstore X.1 X.2.1 jd_M_draw_10 hl (by decide) rfl (fun ls hl => ?_)
  have hl : lv_has ls 8 [(4, .long (lN (limF k0))), (2, .long (lN 2147483648)), (0, .ref (a 33)), (1, .int (nI k0))] := hl
  refine lv_lload X.1 X.2.1 jd_M_draw_12 (lv_at hl 0 rfl) ?_
  refine kn_tol (y := rrF z k0 0) (by rw [rr_0]) ?_
  refine lv_lstore X.1 X.2.1 jd_M_draw_14 hl (by decide) rfl (fun ls hl => ?_)
  have hl : lv_has ls 8 [(6, .long (lN (rrF z k0 0))), (4, .long (lN (limF k0))), (2, .long (lN 2147483648)), (0, .ref (a 33)), (1, .int (nI k0))] := hl
  have loop16 : ∀ (r k : Nat) (H : Heap) (locs : List Loc) (ls : Array Slot), k + r = dbK z k0 + 1 → va_P D jCl (jW d a n (kg g 1 (itF z k))) H → va_S (jAa a s.heap.size) s.heap H locs → lv_has ls 8 [(6, .long (lN (rrF z k0 k))), (4, .long (lN (limF k0))), (0, .ref (a 33)), (1, .int (nI k0))] → W p l e { frames := 1, cells := 0, slots := 0, locals := 20 } s m A below meth c H locs 0 0 Q (F0 m 16 ls []) := by
    intro r
    induction r with
    | zero => 
      intro k H locs ls hk hP hS hl
      obtain rfl : dbK z k0 + 1 = k := by omega
      refine lv_lload X.1 X.2.1 jd_M_draw_16 (lv_at hl 0 rfl) ?_
      refine lv_lload X.1 X.2.1 jd_M_draw_18 (lv_at hl 1 rfl) ?_
      refine kn_llt X.1 X.2.1 jd_M_draw_20 jd_M_draw_21 (tgt := 40) (by decide) (⟨rr_lt _, by have := limF_le (k := k0); omega⟩) (fun h21 => ?_) (fun h21 => absurd h21 (by first | (have := db_acc (s := z) h2 hk0; rw [rr_s] at *; omega) | (have := rr_rej (z := z) (k := k0) (j := k) (by omega); omega)))
      refine lv_lload X.1 X.2.1 jd_M_draw_40 (lv_at hl 0 rfl) ?_
      refine lv_iload_n X.1 X.2.1 jd_M_draw_42 rfl (lv_at hl 3 rfl) ?_
      refine lv_i2l (v := lN k0) X.1 X.2.1 jd_M_draw_43 (nI_l (by omega)) ?_
      refine kn_lrem X.1 X.2.1 jd_M_draw_44 (⟨rr_lt _, by omega, by omega⟩) ?_
      refine kn_tol (y := drV z k0) (by rw [rr_s, drV, drS]) ?_
      refine lv_l2i (v := nI (drV z k0)) X.1 X.2.1 jd_M_draw_45 (lN_i _) ?_
      exact hQ _ _ _ _ _ _ _ (⟨rfl, rfl, by rw [drS]⟩) hP hS jd_M_draw_46
    | succ r ihr => 
      intro k H locs ls hk hP hS hl
      refine lv_lload X.1 X.2.1 jd_M_draw_16 (lv_at hl 0 rfl) ?_
      refine lv_lload X.1 X.2.1 jd_M_draw_18 (lv_at hl 1 rfl) ?_
      refine kn_llt X.1 X.2.1 jd_M_draw_20 jd_M_draw_21 (tgt := 40) (by decide) (⟨rr_lt _, by have := limF_le (k := k0); omega⟩) (fun h21 => absurd h21 (by first | (have := db_acc (s := z) h2 hk0; rw [rr_s] at *; omega) | (have := rr_rej (z := z) (k := k0) (j := k) (by omega); omega))) (fun h21 => ?_)
      refine lv_aload_n X.1 X.2.1 jd_M_draw_24 rfl (lv_at hl 2 rfl) ?_
      refine j_rune (j_mkV X hP (c_M_turn l d D a n (kg g 1 (itF z k)) hap _) jU_bs (j_pe X hP) jm_743 jm_742 js_42 jm_6 jm_740 (by decide) rfl rfl (show jOk jy_M_turn 0 by unfold jOk; decide +kernel) (by decide) ⟨rfl, rfl⟩ hl.1 rfl (Nat.le_of_ble_eq_true rfl) ⟨Nat.zero_le _, Nat.zero_le _⟩ jd_M_draw_25) hS (fun v25 n25 g25 H locs h25 hP hS => ?_)
      obtain ⟨rfl, rfl, rfl⟩ := h25
      have hP : va_P D jCl (jW d a n (kg g 1 (itF z (k + 1)))) H := by rw [kg_kg, kg_s] at hP; exact hP
      refine W.eq (g2 := F0 m 28 ls []) rfl ?_
      refine lv_aload_n X.1 X.2.1 jd_M_draw_28 rfl (lv_at hl 2 rfl) ?_
      refine jg_M_88_33 X hP jd_M_draw_29 ?_
      refine kn_tol (y := itF z (k + 1)) (by rw [kg_s]) ?_
      refine lv_bipush (v := nI 33) X.1 X.2.1 jd_M_draw_32 (by decide) ?_
      refine lv_lushr (v := lN ((itF z (k + 1)) / 2 ^ 33)) X.1 X.2.1 jd_M_draw_34 (wb_shr (itF_lt _ _) (by decide)) ?_
      refine kn_tol (y := rrF z k0 (k + 1)) (by rw [rr_s]) ?_
      refine lv_lstore X.1 X.2.1 jd_M_draw_35 hl (by decide) rfl (fun ls hl => ?_)
      have hl : lv_has ls 8 [(6, .long (lN (rrF z k0 (k + 1)))), (4, .long (lN (limF k0))), (0, .ref (a 33)), (1, .int (nI k0))] := hl
      refine lv_goto X.1 X.2.1 jd_M_draw_37 (tgt := 16) (by decide) ?_
      have hl : lv_has ls 8 [(6, .long (lN (rrF z k0 (k + 1)))), (4, .long (lN (limF k0))), (0, .ref (a 33)), (1, .int (nI k0))] := lv_sub hl [0, 1, 2, 3] rfl
      exact ihr (k + 1) H locs ls (by omega) hP hS hl
  have hP : va_P D jCl (jW d a n (kg g 1 (itF z 0))) s.heap := by rw [show itF z 0 = g 1 from hz.symm, kg_self]; exact hP
  have hl : lv_has ls 8 [(6, .long (lN (rrF z k0 0))), (4, .long (lN (limF k0))), (0, .ref (a 33)), (1, .int (nI k0))] := lv_sub hl [0, 1, 3, 4] rfl
  exact loop16 (dbK z k0 + 1) 0 s.heap [] ls (by omega) hP hS hl

set_option maxHeartbeats 4000000 in
theorem c_M_shuffle (l : Launch) (d : Nat → Nat) (D : va_G) (a : Nat → Nat) (n : Nat → Nat → Nat) (g : Nat → Nat) (hap : ∀ i j : Nat, i < 52 → j < 52 → a i = a j → i = j) (t z : Nat) (h1 : 1 ≤ t) (ht : t ≤ 128) : jEff l d D a n g jy_M_shuffle jb_M_shuffle 7 none { frames := 2, cells := 0, slots := 0, locals := 47 } [.ref (a 33), .int (nI t), .long (lN z)] (fun v9 n2 g2 => none = v9 ∧ (swP n 39 z t (t - 1)).1 = n2 ∧ kg g 1 (swP n 39 z t (t - 1)).2 = g2) := by
  refine je_V (by decide) (Nat.le_of_ble_eq_true rfl) ?_
  intro p e s m A below meth c ls Q X hP hS hl hQ
  have hl : lv_has ls 7 [(0, .ref (a 33)), (1, .int (nI t)), (2, .long (lN z))] := hl
  refine lv_aload_n X.1 X.2.1 jd_M_shuffle_0 rfl (lv_at hl 0 rfl) ?_
  refine lv_lload_n X.1 X.2.1 jd_M_shuffle_1 rfl (lv_at hl 2 rfl) ?_
  refine jp_M_88_33 X hap hP hS jd_M_shuffle_2 (fun H locs hP hS => ?_)
  refine lv_iconst (v := nI 0) X.1 X.2.1 jd_M_shuffle_5 (by decide) ?_
  refine lv_istore X.1 X.2.1 jd_M_shuffle_6 hl (by decide) rfl (fun ls hl => ?_)
  have hl : lv_has ls 7 [(4, .int (nI 0)), (0, .ref (a 33)), (1, .int (nI t)), (2, .long (lN z))] := hl
  have loop8 : ∀ (r k : Nat) (H : Heap) (locs : List Loc) (ls : Array Slot), k + r = t → va_P D jCl (jW d a (flF n 39 k) (kg g 1 z)) H → va_S (jAa a s.heap.size) s.heap H locs → lv_has ls 7 [(4, .int (nI k)), (0, .ref (a 33)), (1, .int (nI t)), (2, .long (lN z))] → W p l e { frames := 2, cells := 0, slots := 0, locals := 47 } s m A below meth c H locs 0 0 Q (F0 m 8 ls []) := by
    intro r
    induction r with
    | zero => 
      intro k H locs ls hk hP hS hl
      obtain rfl : t = k := by omega
      refine lv_iload X.1 X.2.1 jd_M_shuffle_8 (lv_at hl 0 rfl) ?_
      refine lv_iload_n X.1 X.2.1 jd_M_shuffle_10 rfl (lv_at hl 2 rfl) ?_
      refine kn_cge X.1 X.2.1 jd_M_shuffle_11 (tgt := 29) (by decide) (by omega) (fun h11 => ?_) (fun h11 => absurd h11 (by omega))
      refine lv_iload_n X.1 X.2.1 jd_M_shuffle_29 rfl (lv_at hl 2 rfl) ?_
      refine lv_iconst (v := nI 1) X.1 X.2.1 jd_M_shuffle_30 (by decide) ?_
      refine kn_isub X.1 X.2.1 jd_M_shuffle_31 (by omega) ?_
      refine lv_istore X.1 X.2.1 jd_M_shuffle_32 hl (by decide) rfl (fun ls hl => ?_)
      have hl : lv_has ls 7 [(4, .int (nI (t - 1))), (0, .ref (a 33)), (1, .int (nI t)), (2, .long (lN z))] := hl
      have loopB : ∀ (r2 k : Nat) (H : Heap) (locs : List Loc) (ls : Array Slot), k + r2 = t - 1 → va_P D jCl (jW d a ((swP n 39 z t k).1) (kg g 1 (swP n 39 z t k).2)) H → va_S (jAa a s.heap.size) s.heap H locs → lv_has ls 7 [(4, .int (nI (t - 1 - k))), (0, .ref (a 33)), (1, .int (nI t)), (2, .long (lN z))] → W p l e { frames := 2, cells := 0, slots := 0, locals := 47 } s m A below meth c H locs 0 0 Q (F0 m 34 ls []) := by
        intro r2
        induction r2 with
        | zero => 
          intro k H locs ls hk hP hS hl
          obtain rfl : t - 1 = k := by omega
          refine lv_iload X.1 X.2.1 jd_M_shuffle_34 (lv_at hl 0 rfl) ?_
          refine lv_iconst (v := nI 1) X.1 X.2.1 jd_M_shuffle_36 (by decide) ?_
          refine kn_clt X.1 X.2.1 jd_M_shuffle_37 (tgt := 88) (by decide) (by omega) (fun h37 => ?_) (fun h37 => absurd h37 (by omega))
          exact hQ _ _ _ _ _ _ (⟨rfl, rfl, rfl⟩) hP hS jd_M_shuffle_88
        | succ r2 ihr2 => 
          intro k H locs ls hk hP hS hl
          refine lv_iload X.1 X.2.1 jd_M_shuffle_34 (lv_at hl 0 rfl) ?_
          refine lv_iconst (v := nI 1) X.1 X.2.1 jd_M_shuffle_36 (by decide) ?_
          refine kn_clt X.1 X.2.1 jd_M_shuffle_37 (tgt := 88) (by decide) (by omega) (fun h37 => absurd h37 (by omega)) (fun h37 => ?_)
          refine lv_aload_n X.1 X.2.1 jd_M_shuffle_40 rfl (lv_at hl 1 rfl) ?_
          refine lv_iload X.1 X.2.1 jd_M_shuffle_41 (lv_at hl 0 rfl) ?_
          refine lv_iconst (v := nI 1) X.1 X.2.1 jd_M_shuffle_43 (by decide) ?_
          refine kn_iadd X.1 X.2.1 jd_M_shuffle_44 ?_
          refine j_rune (j_mkV X hP (c_M_draw l d D a (swP n 39 z t k).1 (kg g 1 (swP n 39 z t k).2) hap (swP n 39 z t k).2 (t - 1 - k + 1) (kg_s _ _ _) (by omega) (by omega) _) jU_bs (j_pe X hP) jm_738 jm_737 js_41 jm_6 jm_735 (by decide) rfl rfl (show jOk jy_M_draw 1 by unfold jOk; decide +kernel) (by decide) ⟨rfl, rfl⟩ hl.1 rfl (Nat.le_of_ble_eq_true rfl) ⟨Nat.zero_le _, Nat.zero_le _⟩ jd_M_shuffle_45) hS (fun v45 n45 g45 H locs h45 hP hS => ?_)
          obtain ⟨rfl, rfl, rfl⟩ := h45
          rw [kg_kg] at hP
          have hdv := drV_lt (s := (swP n 39 z t k).2) (k := t - 1 - k + 1) (by omega)
          refine W.eq (g2 := F0 m 48 ls [.int (nI (drV (swP n 39 z t k).2 (t - 1 - k + 1)))]) rfl ?_
          refine lv_istore X.1 X.2.1 jd_M_shuffle_48 hl (by decide) rfl (fun ls hl => ?_)
          have hl : lv_has ls 7 [(5, .int (nI (drV (swP n 39 z t k).2 (t - 1 - k + 1)))), (4, .int (nI (t - 1 - k))), (0, .ref (a 33)), (1, .int (nI t)), (2, .long (lN z))] := hl
          refine lv_aload_n X.1 X.2.1 jd_M_shuffle_50 rfl (lv_at hl 2 rfl) ?_
          refine jg_M_26_33 X hP jd_M_shuffle_51 ?_
          refine lv_iload X.1 X.2.1 jd_M_shuffle_54 (lv_at hl 1 rfl) ?_
          refine j_ald X hP 39 (t - 1 - k) (by decide) (show (t - 1 - k) < 128 from by omega) (by decide) jd_M_shuffle_56 ?_
          refine lv_istore X.1 X.2.1 jd_M_shuffle_57 hl (by decide) rfl (fun ls hl => ?_)
          have hl : lv_has ls 7 [(6, .int (nI (((swP n 39 z t k).1) 39 (t - 1 - k)))), (5, .int (nI (drV (swP n 39 z t k).2 (t - 1 - k + 1)))), (4, .int (nI (t - 1 - k))), (0, .ref (a 33)), (1, .int (nI t)), (2, .long (lN z))] := hl
          refine lv_aload_n X.1 X.2.1 jd_M_shuffle_59 rfl (lv_at hl 3 rfl) ?_
          refine jg_M_26_33 X hP jd_M_shuffle_60 ?_
          refine lv_iload X.1 X.2.1 jd_M_shuffle_63 (lv_at hl 2 rfl) ?_
          refine lv_aload_n X.1 X.2.1 jd_M_shuffle_65 rfl (lv_at hl 3 rfl) ?_
          refine jg_M_26_33 X hP jd_M_shuffle_66 ?_
          refine lv_iload X.1 X.2.1 jd_M_shuffle_69 (lv_at hl 1 rfl) ?_
          refine j_ald X hP 39 (drV (swP n 39 z t k).2 (t - 1 - k + 1)) (by decide) (show (drV (swP n 39 z t k).2 (t - 1 - k + 1)) < 128 from by omega) (by decide) jd_M_shuffle_71 ?_
          refine j_ast X hap hP hS 39 (t - 1 - k) (((swP n 39 z t k).1) 39 (drV (swP n 39 z t k).2 (t - 1 - k + 1))) (by decide) (show (t - 1 - k) < 128 from by omega) (by decide) jd_M_shuffle_72 (fun H locs hP hS => ?_)
          refine lv_aload_n X.1 X.2.1 jd_M_shuffle_73 rfl (lv_at hl 3 rfl) ?_
          refine jg_M_26_33 X hP jd_M_shuffle_74 ?_
          refine lv_iload X.1 X.2.1 jd_M_shuffle_77 (lv_at hl 1 rfl) ?_
          refine lv_iload X.1 X.2.1 jd_M_shuffle_79 (lv_at hl 0 rfl) ?_
          refine j_ast X hap hP hS 39 (drV (swP n 39 z t k).2 (t - 1 - k + 1)) (((swP n 39 z t k).1) 39 (t - 1 - k)) (by decide) (show (drV (swP n 39 z t k).2 (t - 1 - k + 1)) < 128 from by omega) (by decide) jd_M_shuffle_81 (fun H locs hP hS => ?_)
          refine lv_iinc (k := 2) (v := nI ((t - 1 - k) - 1)) X.1 X.2.1 jd_M_shuffle_82 hl rfl (kn_dec (by omega)) (by decide) rfl (fun ls hl => ?_)
          have hl : lv_has ls 7 [(4, .int (nI ((t - 1 - k) - 1))), (6, .int (nI (((swP n 39 z t k).1) 39 (t - 1 - k)))), (5, .int (nI (drV (swP n 39 z t k).2 (t - 1 - k + 1)))), (0, .ref (a 33)), (1, .int (nI t)), (2, .long (lN z))] := hl
          refine lv_goto X.1 X.2.1 jd_M_shuffle_85 (tgt := 34) (by decide) ?_
          rw [ku_swap] at hP
          have hP : va_P D jCl (jW d a (swP n 39 z t (k + 1)).1 (kg g 1 (swP n 39 z t (k + 1)).2)) H := hP
          have hl : lv_has ls 7 [(4, .int (nI (t - 1 - (k + 1)))), (0, .ref (a 33)), (1, .int (nI t)), (2, .long (lN z))] := lv_sub hl [0, 3, 4, 5] rfl
          exact ihr2 (k + 1) H locs ls (by omega) hP hS hl
      have hl : lv_has ls 7 [(4, .int (nI (t - 1 - 0))), (0, .ref (a 33)), (1, .int (nI t)), (2, .long (lN z))] := lv_sub hl [0, 1, 2, 3] rfl
      exact loopB (t - 1) 0 H locs ls (by omega) hP hS hl
    | succ r ihr => 
      intro k H locs ls hk hP hS hl
      refine lv_iload X.1 X.2.1 jd_M_shuffle_8 (lv_at hl 0 rfl) ?_
      refine lv_iload_n X.1 X.2.1 jd_M_shuffle_10 rfl (lv_at hl 2 rfl) ?_
      refine kn_cge X.1 X.2.1 jd_M_shuffle_11 (tgt := 29) (by decide) (by omega) (fun h11 => absurd h11 (by omega)) (fun h11 => ?_)
      refine lv_aload_n X.1 X.2.1 jd_M_shuffle_14 rfl (lv_at hl 1 rfl) ?_
      refine jg_M_26_33 X hP jd_M_shuffle_15 ?_
      refine lv_iload X.1 X.2.1 jd_M_shuffle_18 (lv_at hl 0 rfl) ?_
      refine lv_iload X.1 X.2.1 jd_M_shuffle_20 (lv_at hl 0 rfl) ?_
      refine j_ast X hap hP hS 39 k k (by decide) (show k < 128 from by omega) (by decide) jd_M_shuffle_22 (fun H locs hP hS => ?_)
      refine lv_iinc (k := 0) (v := nI (k + 1)) X.1 X.2.1 jd_M_shuffle_23 hl rfl (kn_inc _) (by decide) rfl (fun ls hl => ?_)
      have hl : lv_has ls 7 [(4, .int (nI (k + 1))), (0, .ref (a 33)), (1, .int (nI t)), (2, .long (lN z))] := hl
      refine lv_goto X.1 X.2.1 jd_M_shuffle_26 (tgt := 8) (by decide) ?_
      have hl : lv_has ls 7 [(4, .int (nI (k + 1))), (0, .ref (a 33)), (1, .int (nI t)), (2, .long (lN z))] := lv_sub hl [0, 1, 2, 3] rfl
      exact ihr (k + 1) H locs ls (by omega) hP hS hl
  have hl : lv_has ls 7 [(4, .int (nI 0)), (0, .ref (a 33)), (1, .int (nI t)), (2, .long (lN z))] := lv_sub hl [0, 1, 2, 3] rfl
  exact loop8 (t) 0 H locs ls (by omega) hP hS hl

set_option maxHeartbeats 4000000 in
theorem c_M_shuffle_0 (l : Launch) (d : Nat → Nat) (D : va_G) (a : Nat → Nat) (n : Nat → Nat → Nat) (g : Nat → Nat) (hap : ∀ i j : Nat, i < 52 → j < 52 → a i = a j → i = j) (z : Nat) : jEff l d D a n g jy_M_shuffle jb_M_shuffle 7 none { frames := 2, cells := 0, slots := 0, locals := 47 } [.ref (a 33), .int (nI 0), .long (lN z)] (fun v9 n2 g2 => none = v9 ∧ n = n2 ∧ kg g 1 z = g2) := by
  refine je_V (by decide) (Nat.le_of_ble_eq_true rfl) ?_
  intro p e s m A below meth c ls Q X hP hS hl hQ
  have hl : lv_has ls 7 [(0, .ref (a 33)), (1, .int (nI 0)), (2, .long (lN z))] := hl
  refine lv_aload_n X.1 X.2.1 jd_M_shuffle_0 rfl (lv_at hl 0 rfl) ?_
  refine lv_lload_n X.1 X.2.1 jd_M_shuffle_1 rfl (lv_at hl 2 rfl) ?_
  refine jp_M_88_33 X hap hP hS jd_M_shuffle_2 (fun H locs hP hS => ?_)
  refine lv_iconst (v := nI 0) X.1 X.2.1 jd_M_shuffle_5 (by decide) ?_
  refine lv_istore X.1 X.2.1 jd_M_shuffle_6 hl (by decide) rfl (fun ls hl => ?_)
  have hl : lv_has ls 7 [(4, .int (nI 0)), (0, .ref (a 33)), (1, .int (nI 0)), (2, .long (lN z))] := hl
  refine lv_iload X.1 X.2.1 jd_M_shuffle_8 (lv_at hl 0 rfl) ?_
  refine lv_iload_n X.1 X.2.1 jd_M_shuffle_10 rfl (lv_at hl 2 rfl) ?_
  refine kn_cge X.1 X.2.1 jd_M_shuffle_11 (tgt := 29) (by decide) (by omega) (fun h11 => ?_) (fun h11 => absurd h11 (by omega))
  refine lv_iload_n X.1 X.2.1 jd_M_shuffle_29 rfl (lv_at hl 2 rfl) ?_
  refine lv_iconst (v := nI 1) X.1 X.2.1 jd_M_shuffle_30 (by decide) ?_
  refine lv_isub X.1 X.2.1 jd_M_shuffle_31 ?_
  refine kn_is (y := 4294967295) (by decide) ?_
  refine lv_istore X.1 X.2.1 jd_M_shuffle_32 hl (by decide) rfl (fun ls hl => ?_)
  have hl : lv_has ls 7 [(4, .int (nI 4294967295)), (0, .ref (a 33)), (1, .int (nI 0)), (2, .long (lN z))] := hl
  refine lv_iload X.1 X.2.1 jd_M_shuffle_34 (lv_at hl 0 rfl) ?_
  refine lv_iconst (v := nI 1) X.1 X.2.1 jd_M_shuffle_36 (by decide) ?_
  refine kn_xlt X.1 X.2.1 jd_M_shuffle_37 (tgt := 88) (by decide) (by omega) (fun h37 => ?_) (fun h37 => absurd h37 (by omega))
  exact hQ _ _ _ _ _ _ (⟨rfl, rfl, rfl⟩) hP hS jd_M_shuffle_88

theorem c_M_shuffleF (l : Launch) (d : Nat → Nat) (D : va_G) (a : Nat → Nat) (n : Nat → Nat → Nat) (g : Nat → Nat) (hap : ∀ i j : Nat, i < 52 → j < 52 → a i = a j → i = j) (t z : Nat) (ht : t ≤ 128) : jEff l d D a n g jy_M_shuffle jb_M_shuffle 7 none { frames := 2, cells := 0, slots := 0, locals := 47 } [.ref (a 33), .int (nI t), .long (lN z)] (fun v9 n2 g2 => none = v9 ∧ shuF n 39 z t = n2 ∧ kg g 1 (shuS n 39 z t) = g2) := by
  unfold shuF shuS
  by_cases h : t = 0
  · subst h
    exact c_M_shuffle_0 l d D a n g hap z
  · simp only [if_neg h]
    exact c_M_shuffle l d D a n g hap t z (by omega) ht
