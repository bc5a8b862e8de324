/-! the law's cases. Printed by wip/gen/p48.py -/
set_option maxHeartbeats 4000000 in
theorem law_0 {p : Program} {l : Launch} {e : Env} {s : State} {m : MethodId} {args : Array Value} {below : List Frame} {meth : Method} {c : Code} {H : Heap} {locs : List Loc} {cells slots : Nat} {Q : State → Prop} {ls : Array Slot} {d : Nat → Nat} {D : va_G} {a : Nat → Nat} {n : Nat → Nat → Nat} {g : Nat → Nat} {b L t : Nat} {sc : Nat → Nat} {rt : Option FieldType} {I : (Nat → Nat → Nat) → (Nat → Nat) → Prop} (X : jX p s m args meth c code 7 rt "KeyDistillerLaw" d D) (hJ0 : jS (jAa a s.heap.size) s s.heap) (hNc : jNc s) (hsc : ∀ j, sc j < 4294967296) (hX : va_X b L (fun j => nI (sc j)) s s.heap) (hbl : b < s.heap.size) (hbA : ¬ jAa a s.heap.size b) (hL : L ≤ 3584) (ht : 7 * t + 7 ≤ L) (hcs : cells + 1 ≤ 601024 ∧ slots + 6 ≤ 7293034) (hP : va_P D jCl (jW d a n g) H) (hS : va_S (jAa a s.heap.size) s.heap H locs) (hl : lv_has ls 7 [(4, .int (nI (7 * t))), (0, .ref b), (1, .ref (a 0)), (2, .ref (a 33)), (3, .ref (a 51))]) (hT : ∀ (p0 : Nat) (p1 : Nat) (p2 : Nat) (p3 : Nat) (p4 : Nat) (p5 : Nat), p0 < 4294967296 → p1 < 4294967296 → p2 < 4294967296 → p3 < 4294967296 → p4 < 4294967296 → p5 < 4294967296 → TB I l d D a n g jy_L_record jb_L_record 9 [(0, 18, 21, 13), (0, 18, 25, 15)] [.ref (a 0), .int (nI p0), .int (nI p1), .int (nI p2), .int (nI p3), .int (nI p4), .int (nI p5), .ref (a 51)] jy_M_record jb_M_record 10 [.ref (a 33), .int (nI p0), .int (nI p1), .int (nI p2), .int (nI p3), .int (nI p4), .int (nI p5)]) (kk : ∀ (n2 : Nat → Nat → Nat) (g2 : Nat → Nat) (H1 : Heap) (locs1 : List Loc) (ls1 : Array Slot), I n2 g2 → va_P D jCl (jW d a n2 g2) H1 → va_S (jAa a s.heap.size) s.heap H1 locs1 → lv_has ls1 7 [(4, .int (nI (7 * t))), (0, .ref b), (1, .ref (a 0)), (2, .ref (a 33)), (3, .ref (a 51))] → W p l e room_1 s m args below meth c H1 locs1 (cells + 1) (slots + 6) Q (F0 m 1125 ls1 [])) : W p l e room_1 s m args below meth c H locs cells slots Q (F0 m 128 ls []) := by
  obtain ⟨k, w, m1, h1, m2, h2, rM, hW, hrM, hM, hk4, hth, hout, hI⟩ := hT (sc ((7 * t) + 1)) (sc ((7 * t) + 2)) (sc ((7 * t) + 3)) (sc ((7 * t) + 4)) (sc ((7 * t) + 5)) (sc ((7 * t) + 6)) (hsc _) (hsc _) (hsc _) (hsc _) (hsc _) (hsc _)
  refine lv_aload_n X.1 X.2.1 jd_L_128 rfl (lv_at hl 2 rfl) ?_
  refine lv_aload_n X.1 X.2.1 jd_L_129 rfl (lv_at hl 1 rfl) ?_
  refine lv_iload X.1 X.2.1 jd_L_130 (lv_at hl 0 rfl) ?_
  refine lv_iconst (v := nI 1) X.1 X.2.1 jd_L_132 (by decide) ?_
  refine kn_iadd X.1 X.2.1 jd_L_133 ?_
  refine j_sld X hX hbl hbA hS ((7 * t) + 1) (by omega) hL jd_L_134 ?_
  refine lv_aload_n X.1 X.2.1 jd_L_135 rfl (lv_at hl 1 rfl) ?_
  refine lv_iload X.1 X.2.1 jd_L_136 (lv_at hl 0 rfl) ?_
  refine lv_iconst (v := nI 2) X.1 X.2.1 jd_L_138 (by decide) ?_
  refine kn_iadd X.1 X.2.1 jd_L_139 ?_
  refine j_sld X hX hbl hbA hS ((7 * t) + 2) (by omega) hL jd_L_140 ?_
  refine lv_aload_n X.1 X.2.1 jd_L_141 rfl (lv_at hl 1 rfl) ?_
  refine lv_iload X.1 X.2.1 jd_L_142 (lv_at hl 0 rfl) ?_
  refine lv_iconst (v := nI 3) X.1 X.2.1 jd_L_144 (by decide) ?_
  refine kn_iadd X.1 X.2.1 jd_L_145 ?_
  refine j_sld X hX hbl hbA hS ((7 * t) + 3) (by omega) hL jd_L_146 ?_
  refine lv_aload_n X.1 X.2.1 jd_L_147 rfl (lv_at hl 1 rfl) ?_
  refine lv_iload X.1 X.2.1 jd_L_148 (lv_at hl 0 rfl) ?_
  refine lv_iconst (v := nI 4) X.1 X.2.1 jd_L_150 (by decide) ?_
  refine kn_iadd X.1 X.2.1 jd_L_151 ?_
  refine j_sld X hX hbl hbA hS ((7 * t) + 4) (by omega) hL jd_L_152 ?_
  refine lv_aload_n X.1 X.2.1 jd_L_153 rfl (lv_at hl 1 rfl) ?_
  refine lv_iload X.1 X.2.1 jd_L_154 (lv_at hl 0 rfl) ?_
  refine lv_iconst (v := nI 5) X.1 X.2.1 jd_L_156 (by decide) ?_
  refine kn_iadd X.1 X.2.1 jd_L_157 ?_
  refine j_sld X hX hbl hbA hS ((7 * t) + 5) (by omega) hL jd_L_158 ?_
  refine lv_aload_n X.1 X.2.1 jd_L_159 rfl (lv_at hl 1 rfl) ?_
  refine lv_iload X.1 X.2.1 jd_L_160 (lv_at hl 0 rfl) ?_
  refine lv_bipush (v := nI 6) X.1 X.2.1 jd_L_162 (by decide) ?_
  refine kn_iadd X.1 X.2.1 jd_L_164 ?_
  refine j_sld X hX hbl hbA hS ((7 * t) + 6) (by omega) hL jd_L_165 ?_
  refine lv_aload_n X.1 X.2.1 jd_L_166 rfl (lv_at hl 4 rfl) ?_
  have hJ : jS (fun _ => False) s H := (hJ0.kept hS.2.1).narrow (fun _ h => absurd h id)
  refine j_runw (j_mkW X hP hJ hNc hW jm_232 jm_231 jm_0 jm_230 (show jOk jy_L_record 8 by unfold jOk; decide +kernel) (by decide) ⟨rfl, rfl⟩ hl.1 rfl (Nat.le_of_ble_eq_true rfl) hcs jd_L_167) hS (fun v9 m9 h9 H locs e9 hP hS => ?_)
  obtain ⟨rfl, rfl, rfl⟩ := e9
  refine W.eq (g2 := F0 m 170 ls [.int (nI k)]) rfl ?_
  refine lv_istore X.1 X.2.1 jd_L_170 hl (by decide) rfl (fun ls hl => ?_)
  have hl : lv_has ls 7 [(5, .int (nI k)), (4, .int (nI (7 * t))), (0, .ref b), (1, .ref (a 0)), (2, .ref (a 33)), (3, .ref (a 51))] := hl
  refine lv_aload_n X.1 X.2.1 jd_L_172 rfl (lv_at hl 4 rfl) ?_
  refine lv_aload_n X.1 X.2.1 jd_L_173 rfl (lv_at hl 2 rfl) ?_
  refine lv_iload X.1 X.2.1 jd_L_174 (lv_at hl 1 rfl) ?_
  refine lv_iconst (v := nI 1) X.1 X.2.1 jd_L_176 (by decide) ?_
  refine kn_iadd X.1 X.2.1 jd_L_177 ?_
  refine j_sld X hX hbl hbA hS ((7 * t) + 1) (by omega) hL jd_L_178 ?_
  refine lv_aload_n X.1 X.2.1 jd_L_179 rfl (lv_at hl 2 rfl) ?_
  refine lv_iload X.1 X.2.1 jd_L_180 (lv_at hl 1 rfl) ?_
  refine lv_iconst (v := nI 2) X.1 X.2.1 jd_L_182 (by decide) ?_
  refine kn_iadd X.1 X.2.1 jd_L_183 ?_
  refine j_sld X hX hbl hbA hS ((7 * t) + 2) (by omega) hL jd_L_184 ?_
  refine lv_aload_n X.1 X.2.1 jd_L_185 rfl (lv_at hl 2 rfl) ?_
  refine lv_iload X.1 X.2.1 jd_L_186 (lv_at hl 1 rfl) ?_
  refine lv_iconst (v := nI 3) X.1 X.2.1 jd_L_188 (by decide) ?_
  refine kn_iadd X.1 X.2.1 jd_L_189 ?_
  refine j_sld X hX hbl hbA hS ((7 * t) + 3) (by omega) hL jd_L_190 ?_
  refine lv_aload_n X.1 X.2.1 jd_L_191 rfl (lv_at hl 2 rfl) ?_
  refine lv_iload X.1 X.2.1 jd_L_192 (lv_at hl 1 rfl) ?_
  refine lv_iconst (v := nI 4) X.1 X.2.1 jd_L_194 (by decide) ?_
  refine kn_iadd X.1 X.2.1 jd_L_195 ?_
  refine j_sld X hX hbl hbA hS ((7 * t) + 4) (by omega) hL jd_L_196 ?_
  refine lv_aload_n X.1 X.2.1 jd_L_197 rfl (lv_at hl 2 rfl) ?_
  refine lv_iload X.1 X.2.1 jd_L_198 (lv_at hl 1 rfl) ?_
  refine lv_iconst (v := nI 5) X.1 X.2.1 jd_L_200 (by decide) ?_
  refine kn_iadd X.1 X.2.1 jd_L_201 ?_
  refine j_sld X hX hbl hbA hS ((7 * t) + 5) (by omega) hL jd_L_202 ?_
  refine lv_aload_n X.1 X.2.1 jd_L_203 rfl (lv_at hl 2 rfl) ?_
  refine lv_iload X.1 X.2.1 jd_L_204 (lv_at hl 1 rfl) ?_
  refine lv_bipush (v := nI 6) X.1 X.2.1 jd_L_206 (by decide) ?_
  refine kn_iadd X.1 X.2.1 jd_L_208 ?_
  refine j_sld X hX hbl hbA hS ((7 * t) + 6) (by omega) hL jd_L_209 ?_
  refine j_rune (j_mkV X hP (hM _) jU_bs (j_pe X hP) jm_708 jm_706 jm_707 jm_6 jm_705 (i := 33) (by decide) rfl rfl (show jOk jy_M_record 6 by unfold jOk; decide +kernel) ⟨by have := hrM.1; show _ + 1 ≤ 10; omega, by have := hrM.2.1; show 8 + (10 + 11) + _ ≤ 384; omega⟩ ⟨hrM.2.2.1, hrM.2.2.2⟩ hl.1 rfl (Nat.le_of_ble_eq_true rfl) ⟨by show _ ≤ 601024; omega, by show _ ≤ 7293034; omega⟩ jd_L_210) hS (fun v8 m8 h8 H locs e8 hP hS => ?_)
  obtain ⟨rfl, rfl, rfl⟩ := e8
  refine W.eq (g2 := F0 m 213 ls [.int (nI w)]) rfl ?_
  refine lv_istore X.1 X.2.1 jd_L_213 hl (by decide) rfl (fun ls hl => ?_)
  have hl : lv_has ls 7 [(6, .int (nI w)), (5, .int (nI k)), (4, .int (nI (7 * t))), (0, .ref b), (1, .ref (a 0)), (2, .ref (a 33)), (3, .ref (a 51))] := hl
  refine lv_aload_n X.1 X.2.1 jd_L_215 rfl (lv_at hl 5 rfl) ?_
  refine j_run (j_mkV X hP (c_M_thrown l d D a m2 h2) jU_b (j_pp X hP) jm_704 jm_702 jm_703 jm_6 jm_701 (i := 33) (by decide) rfl rfl (show jOk jy_M_thrown 0 by unfold jOk; decide +kernel) (by decide) ⟨rfl, rfl⟩ hl.1 rfl (Nat.le_of_ble_eq_true rfl) ⟨by show _ ≤ 601024; omega, by show _ ≤ 7293034; omega⟩ jd_L_216) ?_
  refine W.eq (g2 := F0 m 219 ls [.int (nI (m2 33 0))]) rfl ?_
  refine lv_iload X.1 X.2.1 jd_L_219 (lv_at hl 1 rfl) ?_
  refine kn_ceq X.1 X.2.1 jd_L_221 (tgt := 226) (by decide) (by rw [hth]; omega) (fun _ => ?_) (fun q => absurd hth q)
  refine lv_iload X.1 X.2.1 jd_L_226 (lv_at hl 1 rfl) ?_
  refine kn_ne0 X.1 X.2.1 jd_L_228 (tgt := 243) (by decide) (by omega) (fun hk0 => ?_) (fun hk0 => ?_)
  · skip
    refine lv_goto X.1 X.2.1 jd_L_243 (tgt := 1125) (by decide) ?_
    exact kk _ _ _ _ _ hI hP hS (lv_sub hl [2, 3, 4, 5, 6] rfl)
  · skip
    refine lv_aload_n X.1 X.2.1 jd_L_231 rfl (lv_at hl 6 rfl) ?_
    refine lv_iconst (v := nI 0) X.1 X.2.1 jd_L_232 (by decide) ?_
    refine j_lld X hP jd_L_233 ?_
    refine lv_iload X.1 X.2.1 jd_L_234 (lv_at hl 0 rfl) ?_
    refine lv_i2l (v := lN w) X.1 X.2.1 jd_L_236 (nI_l (hout hk0).2) ?_
    refine kn_leq X.1 X.2.1 jd_L_237 jd_L_238 (tgt := 243) (by decide) (hout hk0).1 ?_
    refine lv_goto X.1 X.2.1 jd_L_243 (tgt := 1125) (by decide) ?_
    exact kk _ _ _ _ _ hI hP hS (lv_sub hl [2, 3, 4, 5, 6] rfl)

set_option maxHeartbeats 4000000 in
theorem law_1 {p : Program} {l : Launch} {e : Env} {s : State} {m : MethodId} {args : Array Value} {below : List Frame} {meth : Method} {c : Code} {H : Heap} {locs : List Loc} {cells slots : Nat} {Q : State → Prop} {ls : Array Slot} {d : Nat → Nat} {D : va_G} {a : Nat → Nat} {n : Nat → Nat → Nat} {g : Nat → Nat} {b L t : Nat} {sc : Nat → Nat} {rt : Option FieldType} {I : (Nat → Nat → Nat) → (Nat → Nat) → Prop} (X : jX p s m args meth c code 7 rt "KeyDistillerLaw" d D) (hJ0 : jS (jAa a s.heap.size) s s.heap) (hNc : jNc s) (hsc : ∀ j, sc j < 4294967296) (hX : va_X b L (fun j => nI (sc j)) s s.heap) (hbl : b < s.heap.size) (hbA : ¬ jAa a s.heap.size b) (hL : L ≤ 3584) (ht : 7 * t + 7 ≤ L) (hcs : cells + 1 ≤ 601024 ∧ slots + 6 ≤ 7293034) (hP : va_P D jCl (jW d a n g) H) (hS : va_S (jAa a s.heap.size) s.heap H locs) (hl : lv_has ls 7 [(4, .int (nI (7 * t))), (0, .ref b), (1, .ref (a 0)), (2, .ref (a 33)), (3, .ref (a 51))]) (hT : TB I l d D a n g jy_L_sift jb_L_sift 3 [(0, 8, 11, 15)] [.ref (a 0), .ref (a 51)] jy_M_sift jb_M_sift 2 [.ref (a 33)]) (kk : ∀ (n2 : Nat → Nat → Nat) (g2 : Nat → Nat) (H1 : Heap) (locs1 : List Loc) (ls1 : Array Slot), I n2 g2 → va_P D jCl (jW d a n2 g2) H1 → va_S (jAa a s.heap.size) s.heap H1 locs1 → lv_has ls1 7 [(4, .int (nI (7 * t))), (0, .ref b), (1, .ref (a 0)), (2, .ref (a 33)), (3, .ref (a 51))] → W p l e room_1 s m args below meth c H1 locs1 (cells + 1) (slots + 6) Q (F0 m 1125 ls1 [])) : W p l e room_1 s m args below meth c H locs cells slots Q (F0 m 246 ls []) := by
  obtain ⟨k, w, m1, h1, m2, h2, rM, hW, hrM, hM, hk4, hth, hout, hI⟩ := hT 
  refine lv_aload_n X.1 X.2.1 jd_L_246 rfl (lv_at hl 2 rfl) ?_
  refine lv_aload_n X.1 X.2.1 jd_L_247 rfl (lv_at hl 4 rfl) ?_
  have hJ : jS (fun _ => False) s H := (hJ0.kept hS.2.1).narrow (fun _ h => absurd h id)
  refine j_runw (j_mkW X hP hJ hNc hW jm_345 jm_344 jm_0 jm_343 (show jOk jy_L_sift 2 by unfold jOk; decide +kernel) (by decide) ⟨rfl, rfl⟩ hl.1 rfl (Nat.le_of_ble_eq_true rfl) hcs jd_L_248) hS (fun v9 m9 h9 H locs e9 hP hS => ?_)
  obtain ⟨rfl, rfl, rfl⟩ := e9
  refine W.eq (g2 := F0 m 251 ls [.int (nI k)]) rfl ?_
  refine lv_istore X.1 X.2.1 jd_L_251 hl (by decide) rfl (fun ls hl => ?_)
  have hl : lv_has ls 7 [(5, .int (nI k)), (4, .int (nI (7 * t))), (0, .ref b), (1, .ref (a 0)), (2, .ref (a 33)), (3, .ref (a 51))] := hl
  refine lv_aload_n X.1 X.2.1 jd_L_253 rfl (lv_at hl 4 rfl) ?_
  refine j_rune (j_mkV X hP (hM _) jU_bs (j_pe X hP) jm_722 jm_720 jm_721 jm_6 jm_719 (i := 33) (by decide) rfl rfl (show jOk jy_M_sift 0 by unfold jOk; decide +kernel) ⟨by have := hrM.1; show _ + 1 ≤ 10; omega, by have := hrM.2.1; show 8 + (2 + 11) + _ ≤ 384; omega⟩ ⟨hrM.2.2.1, hrM.2.2.2⟩ hl.1 rfl (Nat.le_of_ble_eq_true rfl) ⟨by show _ ≤ 601024; omega, by show _ ≤ 7293034; omega⟩ jd_L_254) hS (fun v8 m8 h8 H locs e8 hP hS => ?_)
  obtain ⟨rfl, rfl, rfl⟩ := e8
  refine W.eq (g2 := F0 m 257 ls [.int (nI w)]) rfl ?_
  refine lv_istore X.1 X.2.1 jd_L_257 hl (by decide) rfl (fun ls hl => ?_)
  have hl : lv_has ls 7 [(6, .int (nI w)), (5, .int (nI k)), (4, .int (nI (7 * t))), (0, .ref b), (1, .ref (a 0)), (2, .ref (a 33)), (3, .ref (a 51))] := hl
  refine lv_aload_n X.1 X.2.1 jd_L_259 rfl (lv_at hl 5 rfl) ?_
  refine j_run (j_mkV X hP (c_M_thrown l d D a m2 h2) jU_b (j_pp X hP) jm_704 jm_702 jm_703 jm_6 jm_701 (i := 33) (by decide) rfl rfl (show jOk jy_M_thrown 0 by unfold jOk; decide +kernel) (by decide) ⟨rfl, rfl⟩ hl.1 rfl (Nat.le_of_ble_eq_true rfl) ⟨by show _ ≤ 601024; omega, by show _ ≤ 7293034; omega⟩ jd_L_260) ?_
  refine W.eq (g2 := F0 m 263 ls [.int (nI (m2 33 0))]) rfl ?_
  refine lv_iload X.1 X.2.1 jd_L_263 (lv_at hl 1 rfl) ?_
  refine kn_ceq X.1 X.2.1 jd_L_265 (tgt := 270) (by decide) (by rw [hth]; omega) (fun _ => ?_) (fun q => absurd hth q)
  refine lv_iload X.1 X.2.1 jd_L_270 (lv_at hl 1 rfl) ?_
  refine kn_ne0 X.1 X.2.1 jd_L_272 (tgt := 287) (by decide) (by omega) (fun hk0 => ?_) (fun hk0 => ?_)
  · skip
    refine lv_goto X.1 X.2.1 jd_L_287 (tgt := 1125) (by decide) ?_
    exact kk _ _ _ _ _ hI hP hS (lv_sub hl [2, 3, 4, 5, 6] rfl)
  · skip
    refine lv_aload_n X.1 X.2.1 jd_L_275 rfl (lv_at hl 6 rfl) ?_
    refine lv_iconst (v := nI 0) X.1 X.2.1 jd_L_276 (by decide) ?_
    refine j_lld X hP jd_L_277 ?_
    refine lv_iload X.1 X.2.1 jd_L_278 (lv_at hl 0 rfl) ?_
    refine lv_i2l (v := lN w) X.1 X.2.1 jd_L_280 (nI_l (hout hk0).2) ?_
    refine kn_leq X.1 X.2.1 jd_L_281 jd_L_282 (tgt := 287) (by decide) (hout hk0).1 ?_
    refine lv_goto X.1 X.2.1 jd_L_287 (tgt := 1125) (by decide) ?_
    exact kk _ _ _ _ _ hI hP hS (lv_sub hl [2, 3, 4, 5, 6] rfl)

set_option maxHeartbeats 4000000 in
theorem law_2 {p : Program} {l : Launch} {e : Env} {s : State} {m : MethodId} {args : Array Value} {below : List Frame} {meth : Method} {c : Code} {H : Heap} {locs : List Loc} {cells slots : Nat} {Q : State → Prop} {ls : Array Slot} {d : Nat → Nat} {D : va_G} {a : Nat → Nat} {n : Nat → Nat → Nat} {g : Nat → Nat} {b L t : Nat} {sc : Nat → Nat} {rt : Option FieldType} {I : (Nat → Nat → Nat) → (Nat → Nat) → Prop} (X : jX p s m args meth c code 7 rt "KeyDistillerLaw" d D) (hJ0 : jS (jAa a s.heap.size) s s.heap) (hNc : jNc s) (hsc : ∀ j, sc j < 4294967296) (hX : va_X b L (fun j => nI (sc j)) s s.heap) (hbl : b < s.heap.size) (hbA : ¬ jAa a s.heap.size b) (hL : L ≤ 3584) (ht : 7 * t + 7 ≤ L) (hcs : cells + 1 ≤ 601024 ∧ slots + 6 ≤ 7293034) (hP : va_P D jCl (jW d a n g) H) (hS : va_S (jAa a s.heap.size) s.heap H locs) (hl : lv_has ls 7 [(4, .int (nI (7 * t))), (0, .ref b), (1, .ref (a 0)), (2, .ref (a 33)), (3, .ref (a 51))]) (hT : TP I l d D a n g (some .int) jy_K_length jb_K_length 1 [.ref (a 0)] jy_M_length jb_M_length 1 [.ref (a 33)]) (kk : ∀ (n2 : Nat → Nat → Nat) (g2 : Nat → Nat) (H1 : Heap) (locs1 : List Loc) (ls1 : Array Slot), I n2 g2 → va_P D jCl (jW d a n2 g2) H1 → va_S (jAa a s.heap.size) s.heap H1 locs1 → lv_has ls1 7 [(4, .int (nI (7 * t))), (0, .ref b), (1, .ref (a 0)), (2, .ref (a 33)), (3, .ref (a 51))] → W p l e room_1 s m args below meth c H1 locs1 (cells + 1) (slots + 6) Q (F0 m 1125 ls1 [])) : W p l e room_1 s m args below meth c H locs cells slots Q (F0 m 290 ls []) := by
  obtain ⟨v, m2, h2, rK, rM, hrK, hW, hrM, hM, hv, hI⟩ := hT 
  refine lv_aload_n X.1 X.2.1 jd_L_290 rfl (lv_at hl 2 rfl) ?_
  refine j_run (j_mkV X hP hW jU_b (j_pp X hP) jm_181 jm_179 jm_180 jm_1 jm_178 (i := 0) (by decide) rfl rfl (show jOk jy_K_length 0 by unfold jOk; decide +kernel) ⟨by have := hrK.1; show _ + 1 ≤ 10; omega, by have := hrK.2.1; show 8 + (1 + 11) + _ ≤ 384; omega⟩ ⟨hrK.2.2.1, hrK.2.2.2⟩ hl.1 rfl (Nat.le_of_ble_eq_true rfl) ⟨by show _ ≤ 601024; omega, by show _ ≤ 7293034; omega⟩ jd_L_291) ?_
  refine W.eq (g2 := F0 m 294 ls [.int (nI v)]) rfl ?_
  refine lv_aload_n X.1 X.2.1 jd_L_294 rfl (lv_at hl 3 rfl) ?_
  refine j_rune (j_mkV X hP (hM _) jU_bs (j_pe X hP) jm_726 jm_724 jm_725 jm_6 jm_723 (i := 33) (by decide) rfl rfl (show jOk jy_M_length 0 by unfold jOk; decide +kernel) ⟨by have := hrM.1; show _ + 1 ≤ 10; omega, by have := hrM.2.1; show 8 + (1 + 11) + _ ≤ 384; omega⟩ ⟨hrM.2.2.1, hrM.2.2.2⟩ hl.1 rfl (Nat.le_of_ble_eq_true rfl) ⟨by show _ ≤ 601024; omega, by show _ ≤ 7293034; omega⟩ jd_L_295) hS (fun v8 m8 h8 H locs e8 hP hS => ?_)
  obtain ⟨rfl, rfl, rfl⟩ := e8
  refine W.eq (g2 := F0 m 298 ls [.int (nI v), .int (nI v)]) rfl ?_
  refine kn_ceq X.1 X.2.1 jd_L_298 (tgt := 1125) (by decide) ⟨hv, hv⟩ (fun _ => ?_) (fun q => absurd rfl q)
  refine W.widen (k := cells + 1) (n := slots + 6) (by omega) (by omega) ?_
  exact kk _ _ _ _ _ hI hP hS (lv_sub hl [0, 1, 2, 3, 4] rfl)

set_option maxHeartbeats 4000000 in
theorem law_3 {p : Program} {l : Launch} {e : Env} {s : State} {m : MethodId} {args : Array Value} {below : List Frame} {meth : Method} {c : Code} {H : Heap} {locs : List Loc} {cells slots : Nat} {Q : State → Prop} {ls : Array Slot} {d : Nat → Nat} {D : va_G} {a : Nat → Nat} {n : Nat → Nat → Nat} {g : Nat → Nat} {b L t : Nat} {sc : Nat → Nat} {rt : Option FieldType} {I : (Nat → Nat → Nat) → (Nat → Nat) → Prop} (X : jX p s m args meth c code 7 rt "KeyDistillerLaw" d D) (hJ0 : jS (jAa a s.heap.size) s s.heap) (hNc : jNc s) (hsc : ∀ j, sc j < 4294967296) (hX : va_X b L (fun j => nI (sc j)) s s.heap) (hbl : b < s.heap.size) (hbA : ¬ jAa a s.heap.size b) (hL : L ≤ 3584) (ht : 7 * t + 7 ≤ L) (hcs : cells + 1 ≤ 601024 ∧ slots + 6 ≤ 7293034) (hP : va_P D jCl (jW d a n g) H) (hS : va_S (jAa a s.heap.size) s.heap H locs) (hl : lv_has ls 7 [(4, .int (nI (7 * t))), (0, .ref b), (1, .ref (a 0)), (2, .ref (a 33)), (3, .ref (a 51))]) (hT : ∀ (p0 : Nat) (p1 : Nat), p0 < 18446744073709551616 → p1 < 4294967296 → TB I l d D a n g jy_L_sample jb_L_sample 6 [(0, 11, 14, 15), (0, 11, 18, 13)] [.ref (a 0), .long (lN p0), .int (nI p1), .ref (a 51)] jy_M_sample jb_M_sample 7 [.ref (a 33), .long (lN p0), .int (nI p1)]) (kk : ∀ (n2 : Nat → Nat → Nat) (g2 : Nat → Nat) (H1 : Heap) (locs1 : List Loc) (ls1 : Array Slot), I n2 g2 → va_P D jCl (jW d a n2 g2) H1 → va_S (jAa a s.heap.size) s.heap H1 locs1 → lv_has ls1 7 [(4, .int (nI (7 * t))), (0, .ref b), (1, .ref (a 0)), (2, .ref (a 33)), (3, .ref (a 51))] → W p l e room_1 s m args below meth c H1 locs1 (cells + 1) (slots + 6) Q (F0 m 1125 ls1 [])) : W p l e room_1 s m args below meth c H locs cells slots Q (F0 m 303 ls []) := by
  obtain ⟨z, hz, ez⟩ := wb_of ((nI (sc ((7 * t) + 1))).toInt64 <<< ((nI 32).toInt64 &&& 63) ||| ((nI (sc ((7 * t) + 2))).toInt64 &&& lN 4294967295))
  obtain ⟨k, w, m1, h1, m2, h2, rM, hW, hrM, hM, hk4, hth, hout, hI⟩ := hT z (sc ((7 * t) + 3)) hz (hsc _)
  refine lv_aload_n X.1 X.2.1 jd_L_303 rfl (lv_at hl 2 rfl) ?_
  refine lv_aload_n X.1 X.2.1 jd_L_304 rfl (lv_at hl 1 rfl) ?_
  refine lv_iload X.1 X.2.1 jd_L_305 (lv_at hl 0 rfl) ?_
  refine lv_iconst (v := nI 1) X.1 X.2.1 jd_L_307 (by decide) ?_
  refine kn_iadd X.1 X.2.1 jd_L_308 ?_
  refine j_sld X hX hbl hbA hS ((7 * t) + 1) (by omega) hL jd_L_309 ?_
  refine lv_i2l (v := (nI (sc ((7 * t) + 1))).toInt64) X.1 X.2.1 jd_L_310 rfl ?_
  refine lv_bipush (v := nI 32) X.1 X.2.1 jd_L_311 (by decide) ?_
  refine lv_lshl (v := (nI (sc ((7 * t) + 1))).toInt64 <<< ((nI 32).toInt64 &&& 63)) X.1 X.2.1 jd_L_313 rfl ?_
  refine lv_aload_n X.1 X.2.1 jd_L_314 rfl (lv_at hl 1 rfl) ?_
  refine lv_iload X.1 X.2.1 jd_L_315 (lv_at hl 0 rfl) ?_
  refine lv_iconst (v := nI 2) X.1 X.2.1 jd_L_317 (by decide) ?_
  refine kn_iadd X.1 X.2.1 jd_L_318 ?_
  refine j_sld X hX hbl hbA hS ((7 * t) + 2) (by omega) hL jd_L_319 ?_
  refine lv_i2l (v := (nI (sc ((7 * t) + 2))).toInt64) X.1 X.2.1 jd_L_320 rfl ?_
  refine lv_ldc2 (v := lN 4294967295) X.1 X.2.1 X.2.2.2.2.2.1 (X.2.2.2.2.2.2.1 _ jm_852) jd_L_321 ?_
  refine lv_land X.1 X.2.1 jd_L_324 ?_
  refine lv_lor X.1 X.2.1 jd_L_325 ?_
  refine kn_isl (y := z) ez ?_
  refine lv_aload_n X.1 X.2.1 jd_L_326 rfl (lv_at hl 1 rfl) ?_
  refine lv_iload X.1 X.2.1 jd_L_327 (lv_at hl 0 rfl) ?_
  refine lv_iconst (v := nI 3) X.1 X.2.1 jd_L_329 (by decide) ?_
  refine kn_iadd X.1 X.2.1 jd_L_330 ?_
  refine j_sld X hX hbl hbA hS ((7 * t) + 3) (by omega) hL jd_L_331 ?_
  refine lv_aload_n X.1 X.2.1 jd_L_332 rfl (lv_at hl 4 rfl) ?_
  have hJ : jS (fun _ => False) s H := (hJ0.kept hS.2.1).narrow (fun _ h => absurd h id)
  refine j_runw (j_mkW X hP hJ hNc hW jm_357 jm_356 jm_0 jm_355 (show jOk jy_L_sample 4 by unfold jOk; decide +kernel) (by decide) ⟨rfl, rfl⟩ hl.1 rfl (Nat.le_of_ble_eq_true rfl) hcs jd_L_333) hS (fun v9 m9 h9 H locs e9 hP hS => ?_)
  obtain ⟨rfl, rfl, rfl⟩ := e9
  refine W.eq (g2 := F0 m 336 ls [.int (nI k)]) rfl ?_
  refine lv_istore X.1 X.2.1 jd_L_336 hl (by decide) rfl (fun ls hl => ?_)
  have hl : lv_has ls 7 [(5, .int (nI k)), (4, .int (nI (7 * t))), (0, .ref b), (1, .ref (a 0)), (2, .ref (a 33)), (3, .ref (a 51))] := hl
  refine lv_aload_n X.1 X.2.1 jd_L_338 rfl (lv_at hl 4 rfl) ?_
  refine lv_aload_n X.1 X.2.1 jd_L_339 rfl (lv_at hl 2 rfl) ?_
  refine lv_iload X.1 X.2.1 jd_L_340 (lv_at hl 1 rfl) ?_
  refine lv_iconst (v := nI 1) X.1 X.2.1 jd_L_342 (by decide) ?_
  refine kn_iadd X.1 X.2.1 jd_L_343 ?_
  refine j_sld X hX hbl hbA hS ((7 * t) + 1) (by omega) hL jd_L_344 ?_
  refine lv_i2l (v := (nI (sc ((7 * t) + 1))).toInt64) X.1 X.2.1 jd_L_345 rfl ?_
  refine lv_bipush (v := nI 32) X.1 X.2.1 jd_L_346 (by decide) ?_
  refine lv_lshl (v := (nI (sc ((7 * t) + 1))).toInt64 <<< ((nI 32).toInt64 &&& 63)) X.1 X.2.1 jd_L_348 rfl ?_
  refine lv_aload_n X.1 X.2.1 jd_L_349 rfl (lv_at hl 2 rfl) ?_
  refine lv_iload X.1 X.2.1 jd_L_350 (lv_at hl 1 rfl) ?_
  refine lv_iconst (v := nI 2) X.1 X.2.1 jd_L_352 (by decide) ?_
  refine kn_iadd X.1 X.2.1 jd_L_353 ?_
  refine j_sld X hX hbl hbA hS ((7 * t) + 2) (by omega) hL jd_L_354 ?_
  refine lv_i2l (v := (nI (sc ((7 * t) + 2))).toInt64) X.1 X.2.1 jd_L_355 rfl ?_
  refine lv_ldc2 (v := lN 4294967295) X.1 X.2.1 X.2.2.2.2.2.1 (X.2.2.2.2.2.2.1 _ jm_852) jd_L_356 ?_
  refine lv_land X.1 X.2.1 jd_L_359 ?_
  refine lv_lor X.1 X.2.1 jd_L_360 ?_
  refine kn_isl (y := z) ez ?_
  refine lv_aload_n X.1 X.2.1 jd_L_361 rfl (lv_at hl 2 rfl) ?_
  refine lv_iload X.1 X.2.1 jd_L_362 (lv_at hl 1 rfl) ?_
  refine lv_iconst (v := nI 3) X.1 X.2.1 jd_L_364 (by decide) ?_
  refine kn_iadd X.1 X.2.1 jd_L_365 ?_
  refine j_sld X hX hbl hbA hS ((7 * t) + 3) (by omega) hL jd_L_366 ?_
  refine j_rune (j_mkV X hP (hM _) jU_bs (j_pe X hP) jm_730 jm_728 jm_729 jm_6 jm_727 (i := 33) (by decide) rfl rfl (show jOk jy_M_sample 2 by unfold jOk; decide +kernel) ⟨by have := hrM.1; show _ + 1 ≤ 10; omega, by have := hrM.2.1; show 8 + (7 + 11) + _ ≤ 384; omega⟩ ⟨hrM.2.2.1, hrM.2.2.2⟩ hl.1 rfl (Nat.le_of_ble_eq_true rfl) ⟨by show _ ≤ 601024; omega, by show _ ≤ 7293034; omega⟩ jd_L_367) hS (fun v8 m8 h8 H locs e8 hP hS => ?_)
  obtain ⟨rfl, rfl, rfl⟩ := e8
  refine W.eq (g2 := F0 m 370 ls [.int (nI w)]) rfl ?_
  refine lv_istore X.1 X.2.1 jd_L_370 hl (by decide) rfl (fun ls hl => ?_)
  have hl : lv_has ls 7 [(6, .int (nI w)), (5, .int (nI k)), (4, .int (nI (7 * t))), (0, .ref b), (1, .ref (a 0)), (2, .ref (a 33)), (3, .ref (a 51))] := hl
  refine lv_aload_n X.1 X.2.1 jd_L_372 rfl (lv_at hl 5 rfl) ?_
  refine j_run (j_mkV X hP (c_M_thrown l d D a m2 h2) jU_b (j_pp X hP) jm_704 jm_702 jm_703 jm_6 jm_701 (i := 33) (by decide) rfl rfl (show jOk jy_M_thrown 0 by unfold jOk; decide +kernel) (by decide) ⟨rfl, rfl⟩ hl.1 rfl (Nat.le_of_ble_eq_true rfl) ⟨by show _ ≤ 601024; omega, by show _ ≤ 7293034; omega⟩ jd_L_373) ?_
  refine W.eq (g2 := F0 m 376 ls [.int (nI (m2 33 0))]) rfl ?_
  refine lv_iload X.1 X.2.1 jd_L_376 (lv_at hl 1 rfl) ?_
  refine kn_ceq X.1 X.2.1 jd_L_378 (tgt := 383) (by decide) (by rw [hth]; omega) (fun _ => ?_) (fun q => absurd hth q)
  refine lv_iload X.1 X.2.1 jd_L_383 (lv_at hl 1 rfl) ?_
  refine kn_ne0 X.1 X.2.1 jd_L_385 (tgt := 400) (by decide) (by omega) (fun hk0 => ?_) (fun hk0 => ?_)
  · skip
    refine lv_goto X.1 X.2.1 jd_L_400 (tgt := 1125) (by decide) ?_
    exact kk _ _ _ _ _ hI hP hS (lv_sub hl [2, 3, 4, 5, 6] rfl)
  · skip
    refine lv_aload_n X.1 X.2.1 jd_L_388 rfl (lv_at hl 6 rfl) ?_
    refine lv_iconst (v := nI 0) X.1 X.2.1 jd_L_389 (by decide) ?_
    refine j_lld X hP jd_L_390 ?_
    refine lv_iload X.1 X.2.1 jd_L_391 (lv_at hl 0 rfl) ?_
    refine lv_i2l (v := lN w) X.1 X.2.1 jd_L_393 (nI_l (hout hk0).2) ?_
    refine kn_leq X.1 X.2.1 jd_L_394 jd_L_395 (tgt := 400) (by decide) (hout hk0).1 ?_
    refine lv_goto X.1 X.2.1 jd_L_400 (tgt := 1125) (by decide) ?_
    exact kk _ _ _ _ _ hI hP hS (lv_sub hl [2, 3, 4, 5, 6] rfl)

set_option maxHeartbeats 4000000 in
theorem law_4 {p : Program} {l : Launch} {e : Env} {s : State} {m : MethodId} {args : Array Value} {below : List Frame} {meth : Method} {c : Code} {H : Heap} {locs : List Loc} {cells slots : Nat} {Q : State → Prop} {ls : Array Slot} {d : Nat → Nat} {D : va_G} {a : Nat → Nat} {n : Nat → Nat → Nat} {g : Nat → Nat} {b L t : Nat} {sc : Nat → Nat} {rt : Option FieldType} {I : (Nat → Nat → Nat) → (Nat → Nat) → Prop} (X : jX p s m args meth c code 7 rt "KeyDistillerLaw" d D) (hJ0 : jS (jAa a s.heap.size) s s.heap) (hNc : jNc s) (hsc : ∀ j, sc j < 4294967296) (hX : va_X b L (fun j => nI (sc j)) s s.heap) (hbl : b < s.heap.size) (hbA : ¬ jAa a s.heap.size b) (hL : L ≤ 3584) (ht : 7 * t + 7 ≤ L) (hcs : cells + 1 ≤ 601024 ∧ slots + 6 ≤ 7293034) (hP : va_P D jCl (jW d a n g) H) (hS : va_S (jAa a s.heap.size) s.heap H locs) (hl : lv_has ls 7 [(4, .int (nI (7 * t))), (0, .ref b), (1, .ref (a 0)), (2, .ref (a 33)), (3, .ref (a 51))]) (hT : ∀ (p0 : Nat), p0 < 4294967296 → TP I l d D a n g (some .int) jy_K_sampled jb_K_sampled 2 [.ref (a 0), .int (nI p0)] jy_M_sampled jb_M_sampled 2 [.ref (a 33), .int (nI p0)]) (kk : ∀ (n2 : Nat → Nat → Nat) (g2 : Nat → Nat) (H1 : Heap) (locs1 : List Loc) (ls1 : Array Slot), I n2 g2 → va_P D jCl (jW d a n2 g2) H1 → va_S (jAa a s.heap.size) s.heap H1 locs1 → lv_has ls1 7 [(4, .int (nI (7 * t))), (0, .ref b), (1, .ref (a 0)), (2, .ref (a 33)), (3, .ref (a 51))] → W p l e room_1 s m args below meth c H1 locs1 (cells + 1) (slots + 6) Q (F0 m 1125 ls1 [])) : W p l e room_1 s m args below meth c H locs cells slots Q (F0 m 403 ls []) := by
  obtain ⟨v, m2, h2, rK, rM, hrK, hW, hrM, hM, hv, hI⟩ := hT (sc ((7 * t) + 1)) (hsc _)
  refine lv_aload_n X.1 X.2.1 jd_L_403 rfl (lv_at hl 2 rfl) ?_
  refine lv_aload_n X.1 X.2.1 jd_L_404 rfl (lv_at hl 1 rfl) ?_
  refine lv_iload X.1 X.2.1 jd_L_405 (lv_at hl 0 rfl) ?_
  refine lv_iconst (v := nI 1) X.1 X.2.1 jd_L_407 (by decide) ?_
  refine kn_iadd X.1 X.2.1 jd_L_408 ?_
  refine j_sld X hX hbl hbA hS ((7 * t) + 1) (by omega) hL jd_L_409 ?_
  refine j_run (j_mkV X hP hW jU_b (j_pp X hP) jm_185 jm_183 jm_184 jm_1 jm_182 (i := 0) (by decide) rfl rfl (show jOk jy_K_sampled 1 by unfold jOk; decide +kernel) ⟨by have := hrK.1; show _ + 1 ≤ 10; omega, by have := hrK.2.1; show 8 + (2 + 11) + _ ≤ 384; omega⟩ ⟨hrK.2.2.1, hrK.2.2.2⟩ hl.1 rfl (Nat.le_of_ble_eq_true rfl) ⟨by show _ ≤ 601024; omega, by show _ ≤ 7293034; omega⟩ jd_L_410) ?_
  refine W.eq (g2 := F0 m 413 ls [.int (nI v)]) rfl ?_
  refine lv_aload_n X.1 X.2.1 jd_L_413 rfl (lv_at hl 3 rfl) ?_
  refine lv_aload_n X.1 X.2.1 jd_L_414 rfl (lv_at hl 1 rfl) ?_
  refine lv_iload X.1 X.2.1 jd_L_415 (lv_at hl 0 rfl) ?_
  refine lv_iconst (v := nI 1) X.1 X.2.1 jd_L_417 (by decide) ?_
  refine kn_iadd X.1 X.2.1 jd_L_418 ?_
  refine j_sld X hX hbl hbA hS ((7 * t) + 1) (by omega) hL jd_L_419 ?_
  refine j_rune (j_mkV X hP (hM _) jU_bs (j_pe X hP) jm_749 jm_747 jm_748 jm_6 jm_746 (i := 33) (by decide) rfl rfl (show jOk jy_M_sampled 1 by unfold jOk; decide +kernel) ⟨by have := hrM.1; show _ + 1 ≤ 10; omega, by have := hrM.2.1; show 8 + (2 + 11) + _ ≤ 384; omega⟩ ⟨hrM.2.2.1, hrM.2.2.2⟩ hl.1 rfl (Nat.le_of_ble_eq_true rfl) ⟨by show _ ≤ 601024; omega, by show _ ≤ 7293034; omega⟩ jd_L_420) hS (fun v8 m8 h8 H locs e8 hP hS => ?_)
  obtain ⟨rfl, rfl, rfl⟩ := e8
  refine W.eq (g2 := F0 m 423 ls [.int (nI v), .int (nI v)]) rfl ?_
  refine kn_ceq X.1 X.2.1 jd_L_423 (tgt := 1125) (by decide) ⟨hv, hv⟩ (fun _ => ?_) (fun q => absurd rfl q)
  refine W.widen (k := cells + 1) (n := slots + 6) (by omega) (by omega) ?_
  exact kk _ _ _ _ _ hI hP hS (lv_sub hl [0, 1, 2, 3, 4] rfl)

set_option maxHeartbeats 4000000 in
theorem law_5 {p : Program} {l : Launch} {e : Env} {s : State} {m : MethodId} {args : Array Value} {below : List Frame} {meth : Method} {c : Code} {H : Heap} {locs : List Loc} {cells slots : Nat} {Q : State → Prop} {ls : Array Slot} {d : Nat → Nat} {D : va_G} {a : Nat → Nat} {n : Nat → Nat → Nat} {g : Nat → Nat} {b L t : Nat} {sc : Nat → Nat} {rt : Option FieldType} {I : (Nat → Nat → Nat) → (Nat → Nat) → Prop} (X : jX p s m args meth c code 7 rt "KeyDistillerLaw" d D) (hJ0 : jS (jAa a s.heap.size) s s.heap) (hNc : jNc s) (hsc : ∀ j, sc j < 4294967296) (hX : va_X b L (fun j => nI (sc j)) s s.heap) (hbl : b < s.heap.size) (hbA : ¬ jAa a s.heap.size b) (hL : L ≤ 3584) (ht : 7 * t + 7 ≤ L) (hcs : cells + 1 ≤ 601024 ∧ slots + 6 ≤ 7293034) (hP : va_P D jCl (jW d a n g) H) (hS : va_S (jAa a s.heap.size) s.heap H locs) (hl : lv_has ls 7 [(4, .int (nI (7 * t))), (0, .ref b), (1, .ref (a 0)), (2, .ref (a 33)), (3, .ref (a 51))]) (hT : ∀ (p0 : Nat) (p1 : Nat), p0 < 4294967296 → p1 < 18446744073709551616 → TB I l d D a n g jy_L_start jb_L_start 6 [(0, 11, 14, 15), (0, 11, 18, 13)] [.ref (a 0), .int (nI p0), .long (lN p1), .ref (a 51)] jy_M_start jb_M_start 6 [.ref (a 33), .int (nI p0), .long (lN p1)]) (kk : ∀ (n2 : Nat → Nat → Nat) (g2 : Nat → Nat) (H1 : Heap) (locs1 : List Loc) (ls1 : Array Slot), I n2 g2 → va_P D jCl (jW d a n2 g2) H1 → va_S (jAa a s.heap.size) s.heap H1 locs1 → lv_has ls1 7 [(4, .int (nI (7 * t))), (0, .ref b), (1, .ref (a 0)), (2, .ref (a 33)), (3, .ref (a 51))] → W p l e room_1 s m args below meth c H1 locs1 (cells + 1) (slots + 6) Q (F0 m 1125 ls1 [])) : W p l e room_1 s m args below meth c H locs cells slots Q (F0 m 428 ls []) := by
  obtain ⟨z, hz, ez⟩ := wb_of ((nI (sc ((7 * t) + 2))).toInt64 <<< ((nI 32).toInt64 &&& 63) ||| ((nI (sc ((7 * t) + 3))).toInt64 &&& lN 4294967295))
  obtain ⟨k, w, m1, h1, m2, h2, rM, hW, hrM, hM, hk4, hth, hout, hI⟩ := hT (sc ((7 * t) + 1)) z (hsc _) hz
  refine lv_aload_n X.1 X.2.1 jd_L_428 rfl (lv_at hl 2 rfl) ?_
  refine lv_aload_n X.1 X.2.1 jd_L_429 rfl (lv_at hl 1 rfl) ?_
  refine lv_iload X.1 X.2.1 jd_L_430 (lv_at hl 0 rfl) ?_
  refine lv_iconst (v := nI 1) X.1 X.2.1 jd_L_432 (by decide) ?_
  refine kn_iadd X.1 X.2.1 jd_L_433 ?_
  refine j_sld X hX hbl hbA hS ((7 * t) + 1) (by omega) hL jd_L_434 ?_
  refine lv_aload_n X.1 X.2.1 jd_L_435 rfl (lv_at hl 1 rfl) ?_
  refine lv_iload X.1 X.2.1 jd_L_436 (lv_at hl 0 rfl) ?_
  refine lv_iconst (v := nI 2) X.1 X.2.1 jd_L_438 (by decide) ?_
  refine kn_iadd X.1 X.2.1 jd_L_439 ?_
  refine j_sld X hX hbl hbA hS ((7 * t) + 2) (by omega) hL jd_L_440 ?_
  refine lv_i2l (v := (nI (sc ((7 * t) + 2))).toInt64) X.1 X.2.1 jd_L_441 rfl ?_
  refine lv_bipush (v := nI 32) X.1 X.2.1 jd_L_442 (by decide) ?_
  refine lv_lshl (v := (nI (sc ((7 * t) + 2))).toInt64 <<< ((nI 32).toInt64 &&& 63)) X.1 X.2.1 jd_L_444 rfl ?_
  refine lv_aload_n X.1 X.2.1 jd_L_445 rfl (lv_at hl 1 rfl) ?_
  refine lv_iload X.1 X.2.1 jd_L_446 (lv_at hl 0 rfl) ?_
  refine lv_iconst (v := nI 3) X.1 X.2.1 jd_L_448 (by decide) ?_
  refine kn_iadd X.1 X.2.1 jd_L_449 ?_
  refine j_sld X hX hbl hbA hS ((7 * t) + 3) (by omega) hL jd_L_450 ?_
  refine lv_i2l (v := (nI (sc ((7 * t) + 3))).toInt64) X.1 X.2.1 jd_L_451 rfl ?_
  refine lv_ldc2 (v := lN 4294967295) X.1 X.2.1 X.2.2.2.2.2.1 (X.2.2.2.2.2.2.1 _ jm_852) jd_L_452 ?_
  refine lv_land X.1 X.2.1 jd_L_455 ?_
  refine lv_lor X.1 X.2.1 jd_L_456 ?_
  refine kn_isl (y := z) ez ?_
  refine lv_aload_n X.1 X.2.1 jd_L_457 rfl (lv_at hl 4 rfl) ?_
  have hJ : jS (fun _ => False) s H := (hJ0.kept hS.2.1).narrow (fun _ h => absurd h id)
  refine j_runw (j_mkW X hP hJ hNc hW jm_397 jm_396 jm_0 jm_395 (show jOk jy_L_start 4 by unfold jOk; decide +kernel) (by decide) ⟨rfl, rfl⟩ hl.1 rfl (Nat.le_of_ble_eq_true rfl) hcs jd_L_458) hS (fun v9 m9 h9 H locs e9 hP hS => ?_)
  obtain ⟨rfl, rfl, rfl⟩ := e9
  refine W.eq (g2 := F0 m 461 ls [.int (nI k)]) rfl ?_
  refine lv_istore X.1 X.2.1 jd_L_461 hl (by decide) rfl (fun ls hl => ?_)
  have hl : lv_has ls 7 [(5, .int (nI k)), (4, .int (nI (7 * t))), (0, .ref b), (1, .ref (a 0)), (2, .ref (a 33)), (3, .ref (a 51))] := hl
  refine lv_aload_n X.1 X.2.1 jd_L_463 rfl (lv_at hl 4 rfl) ?_
  refine lv_aload_n X.1 X.2.1 jd_L_464 rfl (lv_at hl 2 rfl) ?_
  refine lv_iload X.1 X.2.1 jd_L_465 (lv_at hl 1 rfl) ?_
  refine lv_iconst (v := nI 1) X.1 X.2.1 jd_L_467 (by decide) ?_
  refine kn_iadd X.1 X.2.1 jd_L_468 ?_
  refine j_sld X hX hbl hbA hS ((7 * t) + 1) (by omega) hL jd_L_469 ?_
  refine lv_aload_n X.1 X.2.1 jd_L_470 rfl (lv_at hl 2 rfl) ?_
  refine lv_iload X.1 X.2.1 jd_L_471 (lv_at hl 1 rfl) ?_
  refine lv_iconst (v := nI 2) X.1 X.2.1 jd_L_473 (by decide) ?_
  refine kn_iadd X.1 X.2.1 jd_L_474 ?_
  refine j_sld X hX hbl hbA hS ((7 * t) + 2) (by omega) hL jd_L_475 ?_
  refine lv_i2l (v := (nI (sc ((7 * t) + 2))).toInt64) X.1 X.2.1 jd_L_476 rfl ?_
  refine lv_bipush (v := nI 32) X.1 X.2.1 jd_L_477 (by decide) ?_
  refine lv_lshl (v := (nI (sc ((7 * t) + 2))).toInt64 <<< ((nI 32).toInt64 &&& 63)) X.1 X.2.1 jd_L_479 rfl ?_
  refine lv_aload_n X.1 X.2.1 jd_L_480 rfl (lv_at hl 2 rfl) ?_
  refine lv_iload X.1 X.2.1 jd_L_481 (lv_at hl 1 rfl) ?_
  refine lv_iconst (v := nI 3) X.1 X.2.1 jd_L_483 (by decide) ?_
  refine kn_iadd X.1 X.2.1 jd_L_484 ?_
  refine j_sld X hX hbl hbA hS ((7 * t) + 3) (by omega) hL jd_L_485 ?_
  refine lv_i2l (v := (nI (sc ((7 * t) + 3))).toInt64) X.1 X.2.1 jd_L_486 rfl ?_
  refine lv_ldc2 (v := lN 4294967295) X.1 X.2.1 X.2.2.2.2.2.1 (X.2.2.2.2.2.2.1 _ jm_852) jd_L_487 ?_
  refine lv_land X.1 X.2.1 jd_L_490 ?_
  refine lv_lor X.1 X.2.1 jd_L_491 ?_
  refine kn_isl (y := z) ez ?_
  refine j_rune (j_mkV X hP (hM _) jU_bs (j_pe X hP) jm_753 jm_751 jm_752 jm_6 jm_750 (i := 33) (by decide) rfl rfl (show jOk jy_M_start 2 by unfold jOk; decide +kernel) ⟨by have := hrM.1; show _ + 1 ≤ 10; omega, by have := hrM.2.1; show 8 + (6 + 11) + _ ≤ 384; omega⟩ ⟨hrM.2.2.1, hrM.2.2.2⟩ hl.1 rfl (Nat.le_of_ble_eq_true rfl) ⟨by show _ ≤ 601024; omega, by show _ ≤ 7293034; omega⟩ jd_L_492) hS (fun v8 m8 h8 H locs e8 hP hS => ?_)
  obtain ⟨rfl, rfl, rfl⟩ := e8
  refine W.eq (g2 := F0 m 495 ls [.int (nI w)]) rfl ?_
  refine lv_istore X.1 X.2.1 jd_L_495 hl (by decide) rfl (fun ls hl => ?_)
  have hl : lv_has ls 7 [(6, .int (nI w)), (5, .int (nI k)), (4, .int (nI (7 * t))), (0, .ref b), (1, .ref (a 0)), (2, .ref (a 33)), (3, .ref (a 51))] := hl
  refine lv_aload_n X.1 X.2.1 jd_L_497 rfl (lv_at hl 5 rfl) ?_
  refine j_run (j_mkV X hP (c_M_thrown l d D a m2 h2) jU_b (j_pp X hP) jm_704 jm_702 jm_703 jm_6 jm_701 (i := 33) (by decide) rfl rfl (show jOk jy_M_thrown 0 by unfold jOk; decide +kernel) (by decide) ⟨rfl, rfl⟩ hl.1 rfl (Nat.le_of_ble_eq_true rfl) ⟨by show _ ≤ 601024; omega, by show _ ≤ 7293034; omega⟩ jd_L_498) ?_
  refine W.eq (g2 := F0 m 501 ls [.int (nI (m2 33 0))]) rfl ?_
  refine lv_iload X.1 X.2.1 jd_L_501 (lv_at hl 1 rfl) ?_
  refine kn_ceq X.1 X.2.1 jd_L_503 (tgt := 508) (by decide) (by rw [hth]; omega) (fun _ => ?_) (fun q => absurd hth q)
  refine lv_iload X.1 X.2.1 jd_L_508 (lv_at hl 1 rfl) ?_
  refine kn_ne0 X.1 X.2.1 jd_L_510 (tgt := 525) (by decide) (by omega) (fun hk0 => ?_) (fun hk0 => ?_)
  · skip
    refine lv_goto X.1 X.2.1 jd_L_525 (tgt := 1125) (by decide) ?_
    exact kk _ _ _ _ _ hI hP hS (lv_sub hl [2, 3, 4, 5, 6] rfl)
  · skip
    refine lv_aload_n X.1 X.2.1 jd_L_513 rfl (lv_at hl 6 rfl) ?_
    refine lv_iconst (v := nI 0) X.1 X.2.1 jd_L_514 (by decide) ?_
    refine j_lld X hP jd_L_515 ?_
    refine lv_iload X.1 X.2.1 jd_L_516 (lv_at hl 0 rfl) ?_
    refine lv_i2l (v := lN w) X.1 X.2.1 jd_L_518 (nI_l (hout hk0).2) ?_
    refine kn_leq X.1 X.2.1 jd_L_519 jd_L_520 (tgt := 525) (by decide) (hout hk0).1 ?_
    refine lv_goto X.1 X.2.1 jd_L_525 (tgt := 1125) (by decide) ?_
    exact kk _ _ _ _ _ hI hP hS (lv_sub hl [2, 3, 4, 5, 6] rfl)

set_option maxHeartbeats 4000000 in
theorem law_6 {p : Program} {l : Launch} {e : Env} {s : State} {m : MethodId} {args : Array Value} {below : List Frame} {meth : Method} {c : Code} {H : Heap} {locs : List Loc} {cells slots : Nat} {Q : State → Prop} {ls : Array Slot} {d : Nat → Nat} {D : va_G} {a : Nat → Nat} {n : Nat → Nat → Nat} {g : Nat → Nat} {b L t : Nat} {sc : Nat → Nat} {rt : Option FieldType} {I : (Nat → Nat → Nat) → (Nat → Nat) → Prop} (X : jX p s m args meth c code 7 rt "KeyDistillerLaw" d D) (hJ0 : jS (jAa a s.heap.size) s s.heap) (hNc : jNc s) (hsc : ∀ j, sc j < 4294967296) (hX : va_X b L (fun j => nI (sc j)) s s.heap) (hbl : b < s.heap.size) (hbA : ¬ jAa a s.heap.size b) (hL : L ≤ 3584) (ht : 7 * t + 7 ≤ L) (hcs : cells + 1 ≤ 601024 ∧ slots + 6 ≤ 7293034) (hP : va_P D jCl (jW d a n g) H) (hS : va_S (jAa a s.heap.size) s.heap H locs) (hl : lv_has ls 7 [(4, .int (nI (7 * t))), (0, .ref b), (1, .ref (a 0)), (2, .ref (a 33)), (3, .ref (a 51))]) (hT : ∀ (p0 : Nat) (p1 : Nat), p0 < 4294967296 → p1 < 4294967296 → TB I l d D a n g jy_L_letter jb_L_letter 5 [(0, 10, 13, 13), (0, 10, 17, 33), (0, 10, 21, 15)] [.ref (a 0), .int (nI p0), .int (nI p1), .ref (a 51)] jy_M_letter jb_M_letter 7 [.ref (a 33), .int (nI p0), .int (nI p1)]) (kk : ∀ (n2 : Nat → Nat → Nat) (g2 : Nat → Nat) (H1 : Heap) (locs1 : List Loc) (ls1 : Array Slot), I n2 g2 → va_P D jCl (jW d a n2 g2) H1 → va_S (jAa a s.heap.size) s.heap H1 locs1 → lv_has ls1 7 [(4, .int (nI (7 * t))), (0, .ref b), (1, .ref (a 0)), (2, .ref (a 33)), (3, .ref (a 51))] → W p l e room_1 s m args below meth c H1 locs1 (cells + 1) (slots + 6) Q (F0 m 1125 ls1 [])) : W p l e room_1 s m args below meth c H locs cells slots Q (F0 m 528 ls []) := by
  obtain ⟨k, w, m1, h1, m2, h2, rM, hW, hrM, hM, hk4, hth, hout, hI⟩ := hT (sc ((7 * t) + 1)) (sc ((7 * t) + 2)) (hsc _) (hsc _)
  refine lv_aload_n X.1 X.2.1 jd_L_528 rfl (lv_at hl 2 rfl) ?_
  refine lv_aload_n X.1 X.2.1 jd_L_529 rfl (lv_at hl 1 rfl) ?_
  refine lv_iload X.1 X.2.1 jd_L_530 (lv_at hl 0 rfl) ?_
  refine lv_iconst (v := nI 1) X.1 X.2.1 jd_L_532 (by decide) ?_
  refine kn_iadd X.1 X.2.1 jd_L_533 ?_
  refine j_sld X hX hbl hbA hS ((7 * t) + 1) (by omega) hL jd_L_534 ?_
  refine lv_aload_n X.1 X.2.1 jd_L_535 rfl (lv_at hl 1 rfl) ?_
  refine lv_iload X.1 X.2.1 jd_L_536 (lv_at hl 0 rfl) ?_
  refine lv_iconst (v := nI 2) X.1 X.2.1 jd_L_538 (by decide) ?_
  refine kn_iadd X.1 X.2.1 jd_L_539 ?_
  refine j_sld X hX hbl hbA hS ((7 * t) + 2) (by omega) hL jd_L_540 ?_
  refine lv_aload_n X.1 X.2.1 jd_L_541 rfl (lv_at hl 4 rfl) ?_
  have hJ : jS (fun _ => False) s H := (hJ0.kept hS.2.1).narrow (fun _ h => absurd h id)
  refine j_runw (j_mkW X hP hJ hNc hW jm_463 jm_462 jm_0 jm_461 (show jOk jy_L_letter 4 by unfold jOk; decide +kernel) (by decide) ⟨rfl, rfl⟩ hl.1 rfl (Nat.le_of_ble_eq_true rfl) hcs jd_L_542) hS (fun v9 m9 h9 H locs e9 hP hS => ?_)
  obtain ⟨rfl, rfl, rfl⟩ := e9
  refine W.eq (g2 := F0 m 545 ls [.int (nI k)]) rfl ?_
  refine lv_istore X.1 X.2.1 jd_L_545 hl (by decide) rfl (fun ls hl => ?_)
  have hl : lv_has ls 7 [(5, .int (nI k)), (4, .int (nI (7 * t))), (0, .ref b), (1, .ref (a 0)), (2, .ref (a 33)), (3, .ref (a 51))] := hl
  refine lv_aload_n X.1 X.2.1 jd_L_547 rfl (lv_at hl 4 rfl) ?_
  refine lv_aload_n X.1 X.2.1 jd_L_548 rfl (lv_at hl 2 rfl) ?_
  refine lv_iload X.1 X.2.1 jd_L_549 (lv_at hl 1 rfl) ?_
  refine lv_iconst (v := nI 1) X.1 X.2.1 jd_L_551 (by decide) ?_
  refine kn_iadd X.1 X.2.1 jd_L_552 ?_
  refine j_sld X hX hbl hbA hS ((7 * t) + 1) (by omega) hL jd_L_553 ?_
  refine lv_aload_n X.1 X.2.1 jd_L_554 rfl (lv_at hl 2 rfl) ?_
  refine lv_iload X.1 X.2.1 jd_L_555 (lv_at hl 1 rfl) ?_
  refine lv_iconst (v := nI 2) X.1 X.2.1 jd_L_557 (by decide) ?_
  refine kn_iadd X.1 X.2.1 jd_L_558 ?_
  refine j_sld X hX hbl hbA hS ((7 * t) + 2) (by omega) hL jd_L_559 ?_
  refine j_rune (j_mkV X hP (hM _) jU_bs (j_pe X hP) jm_793 jm_791 jm_792 jm_6 jm_790 (i := 33) (by decide) rfl rfl (show jOk jy_M_letter 2 by unfold jOk; decide +kernel) ⟨by have := hrM.1; show _ + 1 ≤ 10; omega, by have := hrM.2.1; show 8 + (7 + 11) + _ ≤ 384; omega⟩ ⟨hrM.2.2.1, hrM.2.2.2⟩ hl.1 rfl (Nat.le_of_ble_eq_true rfl) ⟨by show _ ≤ 601024; omega, by show _ ≤ 7293034; omega⟩ jd_L_560) hS (fun v8 m8 h8 H locs e8 hP hS => ?_)
  obtain ⟨rfl, rfl, rfl⟩ := e8
  refine W.eq (g2 := F0 m 563 ls [.int (nI w)]) rfl ?_
  refine lv_istore X.1 X.2.1 jd_L_563 hl (by decide) rfl (fun ls hl => ?_)
  have hl : lv_has ls 7 [(6, .int (nI w)), (5, .int (nI k)), (4, .int (nI (7 * t))), (0, .ref b), (1, .ref (a 0)), (2, .ref (a 33)), (3, .ref (a 51))] := hl
  refine lv_aload_n X.1 X.2.1 jd_L_565 rfl (lv_at hl 5 rfl) ?_
  refine j_run (j_mkV X hP (c_M_thrown l d D a m2 h2) jU_b (j_pp X hP) jm_704 jm_702 jm_703 jm_6 jm_701 (i := 33) (by decide) rfl rfl (show jOk jy_M_thrown 0 by unfold jOk; decide +kernel) (by decide) ⟨rfl, rfl⟩ hl.1 rfl (Nat.le_of_ble_eq_true rfl) ⟨by show _ ≤ 601024; omega, by show _ ≤ 7293034; omega⟩ jd_L_566) ?_
  refine W.eq (g2 := F0 m 569 ls [.int (nI (m2 33 0))]) rfl ?_
  refine lv_iload X.1 X.2.1 jd_L_569 (lv_at hl 1 rfl) ?_
  refine kn_ceq X.1 X.2.1 jd_L_571 (tgt := 576) (by decide) (by rw [hth]; omega) (fun _ => ?_) (fun q => absurd hth q)
  refine lv_iload X.1 X.2.1 jd_L_576 (lv_at hl 1 rfl) ?_
  refine kn_ne0 X.1 X.2.1 jd_L_578 (tgt := 593) (by decide) (by omega) (fun hk0 => ?_) (fun hk0 => ?_)
  · skip
    refine lv_goto X.1 X.2.1 jd_L_593 (tgt := 1125) (by decide) ?_
    exact kk _ _ _ _ _ hI hP hS (lv_sub hl [2, 3, 4, 5, 6] rfl)
  · skip
    refine lv_aload_n X.1 X.2.1 jd_L_581 rfl (lv_at hl 6 rfl) ?_
    refine lv_iconst (v := nI 0) X.1 X.2.1 jd_L_582 (by decide) ?_
    refine j_lld X hP jd_L_583 ?_
    refine lv_iload X.1 X.2.1 jd_L_584 (lv_at hl 0 rfl) ?_
    refine lv_i2l (v := lN w) X.1 X.2.1 jd_L_586 (nI_l (hout hk0).2) ?_
    refine kn_leq X.1 X.2.1 jd_L_587 jd_L_588 (tgt := 593) (by decide) (hout hk0).1 ?_
    refine lv_goto X.1 X.2.1 jd_L_593 (tgt := 1125) (by decide) ?_
    exact kk _ _ _ _ _ hI hP hS (lv_sub hl [2, 3, 4, 5, 6] rfl)

set_option maxHeartbeats 4000000 in
theorem law_7 {p : Program} {l : Launch} {e : Env} {s : State} {m : MethodId} {args : Array Value} {below : List Frame} {meth : Method} {c : Code} {H : Heap} {locs : List Loc} {cells slots : Nat} {Q : State → Prop} {ls : Array Slot} {d : Nat → Nat} {D : va_G} {a : Nat → Nat} {n : Nat → Nat → Nat} {g : Nat → Nat} {b L t : Nat} {sc : Nat → Nat} {rt : Option FieldType} {I : (Nat → Nat → Nat) → (Nat → Nat) → Prop} (X : jX p s m args meth c code 7 rt "KeyDistillerLaw" d D) (hJ0 : jS (jAa a s.heap.size) s s.heap) (hNc : jNc s) (hsc : ∀ j, sc j < 4294967296) (hX : va_X b L (fun j => nI (sc j)) s s.heap) (hbl : b < s.heap.size) (hbA : ¬ jAa a s.heap.size b) (hL : L ≤ 3584) (ht : 7 * t + 7 ≤ L) (hcs : cells + 1 ≤ 601024 ∧ slots + 6 ≤ 7293034) (hP : va_P D jCl (jW d a n g) H) (hS : va_S (jAa a s.heap.size) s.heap H locs) (hl : lv_has ls 7 [(4, .int (nI (7 * t))), (0, .ref b), (1, .ref (a 0)), (2, .ref (a 33)), (3, .ref (a 51))]) (hT : ∀ (p0 : Nat) (p1 : Nat), p0 < 4294967296 → p1 < 4294967296 → TP I l d D a n g (some .int) jy_K_told jb_K_told 3 [.ref (a 0), .int (nI p0), .int (nI p1)] jy_M_told jb_M_told 4 [.ref (a 33), .int (nI p0), .int (nI p1)]) (kk : ∀ (n2 : Nat → Nat → Nat) (g2 : Nat → Nat) (H1 : Heap) (locs1 : List Loc) (ls1 : Array Slot), I n2 g2 → va_P D jCl (jW d a n2 g2) H1 → va_S (jAa a s.heap.size) s.heap H1 locs1 → lv_has ls1 7 [(4, .int (nI (7 * t))), (0, .ref b), (1, .ref (a 0)), (2, .ref (a 33)), (3, .ref (a 51))] → W p l e room_1 s m args below meth c H1 locs1 (cells + 1) (slots + 6) Q (F0 m 1125 ls1 [])) : W p l e room_1 s m args below meth c H locs cells slots Q (F0 m 596 ls []) := by
  obtain ⟨v, m2, h2, rK, rM, hrK, hW, hrM, hM, hv, hI⟩ := hT (sc ((7 * t) + 1)) (sc ((7 * t) + 2)) (hsc _) (hsc _)
  refine lv_aload_n X.1 X.2.1 jd_L_596 rfl (lv_at hl 2 rfl) ?_
  refine lv_aload_n X.1 X.2.1 jd_L_597 rfl (lv_at hl 1 rfl) ?_
  refine lv_iload X.1 X.2.1 jd_L_598 (lv_at hl 0 rfl) ?_
  refine lv_iconst (v := nI 1) X.1 X.2.1 jd_L_600 (by decide) ?_
  refine kn_iadd X.1 X.2.1 jd_L_601 ?_
  refine j_sld X hX hbl hbA hS ((7 * t) + 1) (by omega) hL jd_L_602 ?_
  refine lv_aload_n X.1 X.2.1 jd_L_603 rfl (lv_at hl 1 rfl) ?_
  refine lv_iload X.1 X.2.1 jd_L_604 (lv_at hl 0 rfl) ?_
  refine lv_iconst (v := nI 2) X.1 X.2.1 jd_L_606 (by decide) ?_
  refine kn_iadd X.1 X.2.1 jd_L_607 ?_
  refine j_sld X hX hbl hbA hS ((7 * t) + 2) (by omega) hL jd_L_608 ?_
  refine j_run (j_mkV X hP hW jU_b (j_pp X hP) jm_189 jm_187 jm_188 jm_1 jm_186 (i := 0) (by decide) rfl rfl (show jOk jy_K_told 2 by unfold jOk; decide +kernel) ⟨by have := hrK.1; show _ + 1 ≤ 10; omega, by have := hrK.2.1; show 8 + (3 + 11) + _ ≤ 384; omega⟩ ⟨hrK.2.2.1, hrK.2.2.2⟩ hl.1 rfl (Nat.le_of_ble_eq_true rfl) ⟨by show _ ≤ 601024; omega, by show _ ≤ 7293034; omega⟩ jd_L_609) ?_
  refine W.eq (g2 := F0 m 612 ls [.int (nI v)]) rfl ?_
  refine lv_aload_n X.1 X.2.1 jd_L_612 rfl (lv_at hl 3 rfl) ?_
  refine lv_aload_n X.1 X.2.1 jd_L_613 rfl (lv_at hl 1 rfl) ?_
  refine lv_iload X.1 X.2.1 jd_L_614 (lv_at hl 0 rfl) ?_
  refine lv_iconst (v := nI 1) X.1 X.2.1 jd_L_616 (by decide) ?_
  refine kn_iadd X.1 X.2.1 jd_L_617 ?_
  refine j_sld X hX hbl hbA hS ((7 * t) + 1) (by omega) hL jd_L_618 ?_
  refine lv_aload_n X.1 X.2.1 jd_L_619 rfl (lv_at hl 1 rfl) ?_
  refine lv_iload X.1 X.2.1 jd_L_620 (lv_at hl 0 rfl) ?_
  refine lv_iconst (v := nI 2) X.1 X.2.1 jd_L_622 (by decide) ?_
  refine kn_iadd X.1 X.2.1 jd_L_623 ?_
  refine j_sld X hX hbl hbA hS ((7 * t) + 2) (by omega) hL jd_L_624 ?_
  refine j_rune (j_mkV X hP (hM _) jU_bs (j_pe X hP) jm_801 jm_799 jm_800 jm_6 jm_798 (i := 33) (by decide) rfl rfl (show jOk jy_M_told 2 by unfold jOk; decide +kernel) ⟨by have := hrM.1; show _ + 1 ≤ 10; omega, by have := hrM.2.1; show 8 + (4 + 11) + _ ≤ 384; omega⟩ ⟨hrM.2.2.1, hrM.2.2.2⟩ hl.1 rfl (Nat.le_of_ble_eq_true rfl) ⟨by show _ ≤ 601024; omega, by show _ ≤ 7293034; omega⟩ jd_L_625) hS (fun v8 m8 h8 H locs e8 hP hS => ?_)
  obtain ⟨rfl, rfl, rfl⟩ := e8
  refine W.eq (g2 := F0 m 628 ls [.int (nI v), .int (nI v)]) rfl ?_
  refine kn_ceq X.1 X.2.1 jd_L_628 (tgt := 1125) (by decide) ⟨hv, hv⟩ (fun _ => ?_) (fun q => absurd rfl q)
  refine W.widen (k := cells + 1) (n := slots + 6) (by omega) (by omega) ?_
  exact kk _ _ _ _ _ hI hP hS (lv_sub hl [0, 1, 2, 3, 4] rfl)

set_option maxHeartbeats 4000000 in
theorem law_8 {p : Program} {l : Launch} {e : Env} {s : State} {m : MethodId} {args : Array Value} {below : List Frame} {meth : Method} {c : Code} {H : Heap} {locs : List Loc} {cells slots : Nat} {Q : State → Prop} {ls : Array Slot} {d : Nat → Nat} {D : va_G} {a : Nat → Nat} {n : Nat → Nat → Nat} {g : Nat → Nat} {b L t : Nat} {sc : Nat → Nat} {rt : Option FieldType} {I : (Nat → Nat → Nat) → (Nat → Nat) → Prop} (X : jX p s m args meth c code 7 rt "KeyDistillerLaw" d D) (hJ0 : jS (jAa a s.heap.size) s s.heap) (hNc : jNc s) (hsc : ∀ j, sc j < 4294967296) (hX : va_X b L (fun j => nI (sc j)) s s.heap) (hbl : b < s.heap.size) (hbA : ¬ jAa a s.heap.size b) (hL : L ≤ 3584) (ht : 7 * t + 7 ≤ L) (hcs : cells + 1 ≤ 601024 ∧ slots + 6 ≤ 7293034) (hP : va_P D jCl (jW d a n g) H) (hS : va_S (jAa a s.heap.size) s.heap H locs) (hl : lv_has ls 7 [(4, .int (nI (7 * t))), (0, .ref b), (1, .ref (a 0)), (2, .ref (a 33)), (3, .ref (a 51))]) (hT : TB I l d D a n g jy_L_tick jb_L_tick 3 [(0, 8, 11, 15)] [.ref (a 0), .ref (a 51)] jy_M_tick jb_M_tick 1 [.ref (a 33)]) (kk : ∀ (n2 : Nat → Nat → Nat) (g2 : Nat → Nat) (H1 : Heap) (locs1 : List Loc) (ls1 : Array Slot), I n2 g2 → va_P D jCl (jW d a n2 g2) H1 → va_S (jAa a s.heap.size) s.heap H1 locs1 → lv_has ls1 7 [(4, .int (nI (7 * t))), (0, .ref b), (1, .ref (a 0)), (2, .ref (a 33)), (3, .ref (a 51))] → W p l e room_1 s m args below meth c H1 locs1 (cells + 1) (slots + 6) Q (F0 m 1125 ls1 [])) : W p l e room_1 s m args below meth c H locs cells slots Q (F0 m 633 ls []) := by
  obtain ⟨k, w, m1, h1, m2, h2, rM, hW, hrM, hM, hk4, hth, hout, hI⟩ := hT 
  refine lv_aload_n X.1 X.2.1 jd_L_633 rfl (lv_at hl 2 rfl) ?_
  refine lv_aload_n X.1 X.2.1 jd_L_634 rfl (lv_at hl 4 rfl) ?_
  have hJ : jS (fun _ => False) s H := (hJ0.kept hS.2.1).narrow (fun _ h => absurd h id)
  refine j_runw (j_mkW X hP hJ hNc hW jm_510 jm_509 jm_0 jm_508 (show jOk jy_L_tick 2 by unfold jOk; decide +kernel) (by decide) ⟨rfl, rfl⟩ hl.1 rfl (Nat.le_of_ble_eq_true rfl) hcs jd_L_635) hS (fun v9 m9 h9 H locs e9 hP hS => ?_)
  obtain ⟨rfl, rfl, rfl⟩ := e9
  refine W.eq (g2 := F0 m 638 ls [.int (nI k)]) rfl ?_
  refine lv_istore X.1 X.2.1 jd_L_638 hl (by decide) rfl (fun ls hl => ?_)
  have hl : lv_has ls 7 [(5, .int (nI k)), (4, .int (nI (7 * t))), (0, .ref b), (1, .ref (a 0)), (2, .ref (a 33)), (3, .ref (a 51))] := hl
  refine lv_aload_n X.1 X.2.1 jd_L_640 rfl (lv_at hl 4 rfl) ?_
  refine j_rune (j_mkV X hP (hM _) jU_bs (j_pe X hP) jm_805 jm_803 jm_804 jm_6 jm_802 (i := 33) (by decide) rfl rfl (show jOk jy_M_tick 0 by unfold jOk; decide +kernel) ⟨by have := hrM.1; show _ + 1 ≤ 10; omega, by have := hrM.2.1; show 8 + (1 + 11) + _ ≤ 384; omega⟩ ⟨hrM.2.2.1, hrM.2.2.2⟩ hl.1 rfl (Nat.le_of_ble_eq_true rfl) ⟨by show _ ≤ 601024; omega, by show _ ≤ 7293034; omega⟩ jd_L_641) hS (fun v8 m8 h8 H locs e8 hP hS => ?_)
  obtain ⟨rfl, rfl, rfl⟩ := e8
  refine W.eq (g2 := F0 m 644 ls [.int (nI w)]) rfl ?_
  refine lv_istore X.1 X.2.1 jd_L_644 hl (by decide) rfl (fun ls hl => ?_)
  have hl : lv_has ls 7 [(6, .int (nI w)), (5, .int (nI k)), (4, .int (nI (7 * t))), (0, .ref b), (1, .ref (a 0)), (2, .ref (a 33)), (3, .ref (a 51))] := hl
  refine lv_aload_n X.1 X.2.1 jd_L_646 rfl (lv_at hl 5 rfl) ?_
  refine j_run (j_mkV X hP (c_M_thrown l d D a m2 h2) jU_b (j_pp X hP) jm_704 jm_702 jm_703 jm_6 jm_701 (i := 33) (by decide) rfl rfl (show jOk jy_M_thrown 0 by unfold jOk; decide +kernel) (by decide) ⟨rfl, rfl⟩ hl.1 rfl (Nat.le_of_ble_eq_true rfl) ⟨by show _ ≤ 601024; omega, by show _ ≤ 7293034; omega⟩ jd_L_647) ?_
  refine W.eq (g2 := F0 m 650 ls [.int (nI (m2 33 0))]) rfl ?_
  refine lv_iload X.1 X.2.1 jd_L_650 (lv_at hl 1 rfl) ?_
  refine kn_ceq X.1 X.2.1 jd_L_652 (tgt := 657) (by decide) (by rw [hth]; omega) (fun _ => ?_) (fun q => absurd hth q)
  refine lv_iload X.1 X.2.1 jd_L_657 (lv_at hl 1 rfl) ?_
  refine kn_ne0 X.1 X.2.1 jd_L_659 (tgt := 674) (by decide) (by omega) (fun hk0 => ?_) (fun hk0 => ?_)
  · skip
    refine lv_goto X.1 X.2.1 jd_L_674 (tgt := 1125) (by decide) ?_
    exact kk _ _ _ _ _ hI hP hS (lv_sub hl [2, 3, 4, 5, 6] rfl)
  · skip
    refine lv_aload_n X.1 X.2.1 jd_L_662 rfl (lv_at hl 6 rfl) ?_
    refine lv_iconst (v := nI 0) X.1 X.2.1 jd_L_663 (by decide) ?_
    refine j_lld X hP jd_L_664 ?_
    refine lv_iload X.1 X.2.1 jd_L_665 (lv_at hl 0 rfl) ?_
    refine lv_i2l (v := lN w) X.1 X.2.1 jd_L_667 (nI_l (hout hk0).2) ?_
    refine kn_leq X.1 X.2.1 jd_L_668 jd_L_669 (tgt := 674) (by decide) (hout hk0).1 ?_
    refine lv_goto X.1 X.2.1 jd_L_674 (tgt := 1125) (by decide) ?_
    exact kk _ _ _ _ _ hI hP hS (lv_sub hl [2, 3, 4, 5, 6] rfl)

set_option maxHeartbeats 4000000 in
theorem law_9 {p : Program} {l : Launch} {e : Env} {s : State} {m : MethodId} {args : Array Value} {below : List Frame} {meth : Method} {c : Code} {H : Heap} {locs : List Loc} {cells slots : Nat} {Q : State → Prop} {ls : Array Slot} {d : Nat → Nat} {D : va_G} {a : Nat → Nat} {n : Nat → Nat → Nat} {g : Nat → Nat} {b L t : Nat} {sc : Nat → Nat} {rt : Option FieldType} {I : (Nat → Nat → Nat) → (Nat → Nat) → Prop} (X : jX p s m args meth c code 7 rt "KeyDistillerLaw" d D) (hJ0 : jS (jAa a s.heap.size) s s.heap) (hNc : jNc s) (hsc : ∀ j, sc j < 4294967296) (hX : va_X b L (fun j => nI (sc j)) s s.heap) (hbl : b < s.heap.size) (hbA : ¬ jAa a s.heap.size b) (hL : L ≤ 3584) (ht : 7 * t + 7 ≤ L) (hcs : cells + 1 ≤ 601024 ∧ slots + 6 ≤ 7293034) (hP : va_P D jCl (jW d a n g) H) (hS : va_S (jAa a s.heap.size) s.heap H locs) (hl : lv_has ls 7 [(4, .int (nI (7 * t))), (0, .ref b), (1, .ref (a 0)), (2, .ref (a 33)), (3, .ref (a 51))]) (hT : TP I l d D a n g (some .boolean) jy_K_done jb_K_done 1 [.ref (a 0)] jy_M_done jb_M_done 1 [.ref (a 33)]) (kk : ∀ (n2 : Nat → Nat → Nat) (g2 : Nat → Nat) (H1 : Heap) (locs1 : List Loc) (ls1 : Array Slot), I n2 g2 → va_P D jCl (jW d a n2 g2) H1 → va_S (jAa a s.heap.size) s.heap H1 locs1 → lv_has ls1 7 [(4, .int (nI (7 * t))), (0, .ref b), (1, .ref (a 0)), (2, .ref (a 33)), (3, .ref (a 51))] → W p l e room_1 s m args below meth c H1 locs1 (cells + 1) (slots + 6) Q (F0 m 1125 ls1 [])) : W p l e room_1 s m args below meth c H locs cells slots Q (F0 m 677 ls []) := by
  obtain ⟨v, m2, h2, rK, rM, hrK, hW, hrM, hM, hv, hI⟩ := hT 
  refine lv_aload_n X.1 X.2.1 jd_L_677 rfl (lv_at hl 2 rfl) ?_
  refine j_run (j_mkV X hP hW jU_b (j_pp X hP) jm_213 jm_211 jm_212 jm_1 jm_210 (i := 0) (by decide) rfl rfl (show jOk jy_K_done 0 by unfold jOk; decide +kernel) ⟨by have := hrK.1; show _ + 1 ≤ 10; omega, by have := hrK.2.1; show 8 + (1 + 11) + _ ≤ 384; omega⟩ ⟨hrK.2.2.1, hrK.2.2.2⟩ hl.1 rfl (Nat.le_of_ble_eq_true rfl) ⟨by show _ ≤ 601024; omega, by show _ ≤ 7293034; omega⟩ jd_L_678) ?_
  refine W.eq (g2 := F0 m 681 ls [.int (nI v)]) rfl ?_
  refine lv_aload_n X.1 X.2.1 jd_L_681 rfl (lv_at hl 3 rfl) ?_
  refine j_rune (j_mkV X hP (hM _) jU_bs (j_pe X hP) jm_809 jm_807 jm_808 jm_6 jm_806 (i := 33) (by decide) rfl rfl (show jOk jy_M_done 0 by unfold jOk; decide +kernel) ⟨by have := hrM.1; show _ + 1 ≤ 10; omega, by have := hrM.2.1; show 8 + (1 + 11) + _ ≤ 384; omega⟩ ⟨hrM.2.2.1, hrM.2.2.2⟩ hl.1 rfl (Nat.le_of_ble_eq_true rfl) ⟨by show _ ≤ 601024; omega, by show _ ≤ 7293034; omega⟩ jd_L_682) hS (fun v8 m8 h8 H locs e8 hP hS => ?_)
  obtain ⟨rfl, rfl, rfl⟩ := e8
  refine W.eq (g2 := F0 m 685 ls [.int (nI v), .int (nI v)]) rfl ?_
  refine kn_ceq X.1 X.2.1 jd_L_685 (tgt := 1125) (by decide) ⟨hv, hv⟩ (fun _ => ?_) (fun q => absurd rfl q)
  refine W.widen (k := cells + 1) (n := slots + 6) (by omega) (by omega) ?_
  exact kk _ _ _ _ _ hI hP hS (lv_sub hl [0, 1, 2, 3, 4] rfl)

set_option maxHeartbeats 4000000 in
theorem law_10 {p : Program} {l : Launch} {e : Env} {s : State} {m : MethodId} {args : Array Value} {below : List Frame} {meth : Method} {c : Code} {H : Heap} {locs : List Loc} {cells slots : Nat} {Q : State → Prop} {ls : Array Slot} {d : Nat → Nat} {D : va_G} {a : Nat → Nat} {n : Nat → Nat → Nat} {g : Nat → Nat} {b L t : Nat} {sc : Nat → Nat} {rt : Option FieldType} {I : (Nat → Nat → Nat) → (Nat → Nat) → Prop} (X : jX p s m args meth c code 7 rt "KeyDistillerLaw" d D) (hJ0 : jS (jAa a s.heap.size) s s.heap) (hNc : jNc s) (hsc : ∀ j, sc j < 4294967296) (hX : va_X b L (fun j => nI (sc j)) s s.heap) (hbl : b < s.heap.size) (hbA : ¬ jAa a s.heap.size b) (hL : L ≤ 3584) (ht : 7 * t + 7 ≤ L) (hcs : cells + 1 ≤ 601024 ∧ slots + 6 ≤ 7293034) (hP : va_P D jCl (jW d a n g) H) (hS : va_S (jAa a s.heap.size) s.heap H locs) (hl : lv_has ls 7 [(4, .int (nI (7 * t))), (0, .ref b), (1, .ref (a 0)), (2, .ref (a 33)), (3, .ref (a 51))]) (hT : TP I l d D a n g (some .int) jy_K_pass jb_K_pass 1 [.ref (a 0)] jy_M_pass jb_M_pass 1 [.ref (a 33)]) (kk : ∀ (n2 : Nat → Nat → Nat) (g2 : Nat → Nat) (H1 : Heap) (locs1 : List Loc) (ls1 : Array Slot), I n2 g2 → va_P D jCl (jW d a n2 g2) H1 → va_S (jAa a s.heap.size) s.heap H1 locs1 → lv_has ls1 7 [(4, .int (nI (7 * t))), (0, .ref b), (1, .ref (a 0)), (2, .ref (a 33)), (3, .ref (a 51))] → W p l e room_1 s m args below meth c H1 locs1 (cells + 1) (slots + 6) Q (F0 m 1125 ls1 [])) : W p l e room_1 s m args below meth c H locs cells slots Q (F0 m 690 ls []) := by
  obtain ⟨v, m2, h2, rK, rM, hrK, hW, hrM, hM, hv, hI⟩ := hT 
  refine lv_aload_n X.1 X.2.1 jd_L_690 rfl (lv_at hl 2 rfl) ?_
  refine j_run (j_mkV X hP hW jU_b (j_pp X hP) jm_221 jm_219 jm_220 jm_1 jm_218 (i := 0) (by decide) rfl rfl (show jOk jy_K_pass 0 by unfold jOk; decide +kernel) ⟨by have := hrK.1; show _ + 1 ≤ 10; omega, by have := hrK.2.1; show 8 + (1 + 11) + _ ≤ 384; omega⟩ ⟨hrK.2.2.1, hrK.2.2.2⟩ hl.1 rfl (Nat.le_of_ble_eq_true rfl) ⟨by show _ ≤ 601024; omega, by show _ ≤ 7293034; omega⟩ jd_L_691) ?_
  refine W.eq (g2 := F0 m 694 ls [.int (nI v)]) rfl ?_
  refine lv_aload_n X.1 X.2.1 jd_L_694 rfl (lv_at hl 3 rfl) ?_
  refine j_rune (j_mkV X hP (hM _) jU_bs (j_pe X hP) jm_813 jm_811 jm_812 jm_6 jm_810 (i := 33) (by decide) rfl rfl (show jOk jy_M_pass 0 by unfold jOk; decide +kernel) ⟨by have := hrM.1; show _ + 1 ≤ 10; omega, by have := hrM.2.1; show 8 + (1 + 11) + _ ≤ 384; omega⟩ ⟨hrM.2.2.1, hrM.2.2.2⟩ hl.1 rfl (Nat.le_of_ble_eq_true rfl) ⟨by show _ ≤ 601024; omega, by show _ ≤ 7293034; omega⟩ jd_L_695) hS (fun v8 m8 h8 H locs e8 hP hS => ?_)
  obtain ⟨rfl, rfl, rfl⟩ := e8
  refine W.eq (g2 := F0 m 698 ls [.int (nI v), .int (nI v)]) rfl ?_
  refine kn_ceq X.1 X.2.1 jd_L_698 (tgt := 1125) (by decide) ⟨hv, hv⟩ (fun _ => ?_) (fun q => absurd rfl q)
  refine W.widen (k := cells + 1) (n := slots + 6) (by omega) (by omega) ?_
  exact kk _ _ _ _ _ hI hP hS (lv_sub hl [0, 1, 2, 3, 4] rfl)

set_option maxHeartbeats 4000000 in
theorem law_11 {p : Program} {l : Launch} {e : Env} {s : State} {m : MethodId} {args : Array Value} {below : List Frame} {meth : Method} {c : Code} {H : Heap} {locs : List Loc} {cells slots : Nat} {Q : State → Prop} {ls : Array Slot} {d : Nat → Nat} {D : va_G} {a : Nat → Nat} {n : Nat → Nat → Nat} {g : Nat → Nat} {b L t : Nat} {sc : Nat → Nat} {rt : Option FieldType} {I : (Nat → Nat → Nat) → (Nat → Nat) → Prop} (X : jX p s m args meth c code 7 rt "KeyDistillerLaw" d D) (hJ0 : jS (jAa a s.heap.size) s s.heap) (hNc : jNc s) (hsc : ∀ j, sc j < 4294967296) (hX : va_X b L (fun j => nI (sc j)) s s.heap) (hbl : b < s.heap.size) (hbA : ¬ jAa a s.heap.size b) (hL : L ≤ 3584) (ht : 7 * t + 7 ≤ L) (hcs : cells + 1 ≤ 601024 ∧ slots + 6 ≤ 7293034) (hP : va_P D jCl (jW d a n g) H) (hS : va_S (jAa a s.heap.size) s.heap H locs) (hl : lv_has ls 7 [(4, .int (nI (7 * t))), (0, .ref b), (1, .ref (a 0)), (2, .ref (a 33)), (3, .ref (a 51))]) (hT : TP I l d D a n g (some .int) jy_K_disclosed jb_K_disclosed 1 [.ref (a 0)] jy_M_disclosed jb_M_disclosed 1 [.ref (a 33)]) (kk : ∀ (n2 : Nat → Nat → Nat) (g2 : Nat → Nat) (H1 : Heap) (locs1 : List Loc) (ls1 : Array Slot), I n2 g2 → va_P D jCl (jW d a n2 g2) H1 → va_S (jAa a s.heap.size) s.heap H1 locs1 → lv_has ls1 7 [(4, .int (nI (7 * t))), (0, .ref b), (1, .ref (a 0)), (2, .ref (a 33)), (3, .ref (a 51))] → W p l e room_1 s m args below meth c H1 locs1 (cells + 1) (slots + 6) Q (F0 m 1125 ls1 [])) : W p l e room_1 s m args below meth c H locs cells slots Q (F0 m 703 ls []) := by
  obtain ⟨v, m2, h2, rK, rM, hrK, hW, hrM, hM, hv, hI⟩ := hT 
  refine lv_aload_n X.1 X.2.1 jd_L_703 rfl (lv_at hl 2 rfl) ?_
  refine j_run (j_mkV X hP hW jU_b (j_pp X hP) jm_225 jm_223 jm_224 jm_1 jm_222 (i := 0) (by decide) rfl rfl (show jOk jy_K_disclosed 0 by unfold jOk; decide +kernel) ⟨by have := hrK.1; show _ + 1 ≤ 10; omega, by have := hrK.2.1; show 8 + (1 + 11) + _ ≤ 384; omega⟩ ⟨hrK.2.2.1, hrK.2.2.2⟩ hl.1 rfl (Nat.le_of_ble_eq_true rfl) ⟨by show _ ≤ 601024; omega, by show _ ≤ 7293034; omega⟩ jd_L_704) ?_
  refine W.eq (g2 := F0 m 707 ls [.int (nI v)]) rfl ?_
  refine lv_aload_n X.1 X.2.1 jd_L_707 rfl (lv_at hl 3 rfl) ?_
  refine j_rune (j_mkV X hP (hM _) jU_bs (j_pe X hP) jm_817 jm_815 jm_816 jm_6 jm_814 (i := 33) (by decide) rfl rfl (show jOk jy_M_disclosed 0 by unfold jOk; decide +kernel) ⟨by have := hrM.1; show _ + 1 ≤ 10; omega, by have := hrM.2.1; show 8 + (1 + 11) + _ ≤ 384; omega⟩ ⟨hrM.2.2.1, hrM.2.2.2⟩ hl.1 rfl (Nat.le_of_ble_eq_true rfl) ⟨by show _ ≤ 601024; omega, by show _ ≤ 7293034; omega⟩ jd_L_708) hS (fun v8 m8 h8 H locs e8 hP hS => ?_)
  obtain ⟨rfl, rfl, rfl⟩ := e8
  refine W.eq (g2 := F0 m 711 ls [.int (nI v), .int (nI v)]) rfl ?_
  refine kn_ceq X.1 X.2.1 jd_L_711 (tgt := 1125) (by decide) ⟨hv, hv⟩ (fun _ => ?_) (fun q => absurd rfl q)
  refine W.widen (k := cells + 1) (n := slots + 6) (by omega) (by omega) ?_
  exact kk _ _ _ _ _ hI hP hS (lv_sub hl [0, 1, 2, 3, 4] rfl)

set_option maxHeartbeats 4000000 in
theorem law_12 {p : Program} {l : Launch} {e : Env} {s : State} {m : MethodId} {args : Array Value} {below : List Frame} {meth : Method} {c : Code} {H : Heap} {locs : List Loc} {cells slots : Nat} {Q : State → Prop} {ls : Array Slot} {d : Nat → Nat} {D : va_G} {a : Nat → Nat} {n : Nat → Nat → Nat} {g : Nat → Nat} {b L t : Nat} {sc : Nat → Nat} {rt : Option FieldType} {I : (Nat → Nat → Nat) → (Nat → Nat) → Prop} (X : jX p s m args meth c code 7 rt "KeyDistillerLaw" d D) (hJ0 : jS (jAa a s.heap.size) s s.heap) (hNc : jNc s) (hsc : ∀ j, sc j < 4294967296) (hX : va_X b L (fun j => nI (sc j)) s s.heap) (hbl : b < s.heap.size) (hbA : ¬ jAa a s.heap.size b) (hL : L ≤ 3584) (ht : 7 * t + 7 ≤ L) (hcs : cells + 1 ≤ 601024 ∧ slots + 6 ≤ 7293034) (hP : va_P D jCl (jW d a n g) H) (hS : va_S (jAa a s.heap.size) s.heap H locs) (hl : lv_has ls 7 [(4, .int (nI (7 * t))), (0, .ref b), (1, .ref (a 0)), (2, .ref (a 33)), (3, .ref (a 51))]) (hT : ∀ (p0 : Nat), p0 < 4294967296 → TP I l d D a n g (some .int) jy_K_answered jb_K_answered 2 [.ref (a 0), .int (nI p0)] jy_M_answered jb_M_answered 2 [.ref (a 33), .int (nI p0)]) (kk : ∀ (n2 : Nat → Nat → Nat) (g2 : Nat → Nat) (H1 : Heap) (locs1 : List Loc) (ls1 : Array Slot), I n2 g2 → va_P D jCl (jW d a n2 g2) H1 → va_S (jAa a s.heap.size) s.heap H1 locs1 → lv_has ls1 7 [(4, .int (nI (7 * t))), (0, .ref b), (1, .ref (a 0)), (2, .ref (a 33)), (3, .ref (a 51))] → W p l e room_1 s m args below meth c H1 locs1 (cells + 1) (slots + 6) Q (F0 m 1125 ls1 [])) : W p l e room_1 s m args below meth c H locs cells slots Q (F0 m 716 ls []) := by
  obtain ⟨v, m2, h2, rK, rM, hrK, hW, hrM, hM, hv, hI⟩ := hT (sc ((7 * t) + 1)) (hsc _)
  refine lv_aload_n X.1 X.2.1 jd_L_716 rfl (lv_at hl 2 rfl) ?_
  refine lv_aload_n X.1 X.2.1 jd_L_717 rfl (lv_at hl 1 rfl) ?_
  refine lv_iload X.1 X.2.1 jd_L_718 (lv_at hl 0 rfl) ?_
  refine lv_iconst (v := nI 1) X.1 X.2.1 jd_L_720 (by decide) ?_
  refine kn_iadd X.1 X.2.1 jd_L_721 ?_
  refine j_sld X hX hbl hbA hS ((7 * t) + 1) (by omega) hL jd_L_722 ?_
  refine j_run (j_mkV X hP hW jU_b (j_pp X hP) jm_229 jm_227 jm_228 jm_1 jm_226 (i := 0) (by decide) rfl rfl (show jOk jy_K_answered 1 by unfold jOk; decide +kernel) ⟨by have := hrK.1; show _ + 1 ≤ 10; omega, by have := hrK.2.1; show 8 + (2 + 11) + _ ≤ 384; omega⟩ ⟨hrK.2.2.1, hrK.2.2.2⟩ hl.1 rfl (Nat.le_of_ble_eq_true rfl) ⟨by show _ ≤ 601024; omega, by show _ ≤ 7293034; omega⟩ jd_L_723) ?_
  refine W.eq (g2 := F0 m 726 ls [.int (nI v)]) rfl ?_
  refine lv_aload_n X.1 X.2.1 jd_L_726 rfl (lv_at hl 3 rfl) ?_
  refine lv_aload_n X.1 X.2.1 jd_L_727 rfl (lv_at hl 1 rfl) ?_
  refine lv_iload X.1 X.2.1 jd_L_728 (lv_at hl 0 rfl) ?_
  refine lv_iconst (v := nI 1) X.1 X.2.1 jd_L_730 (by decide) ?_
  refine kn_iadd X.1 X.2.1 jd_L_731 ?_
  refine j_sld X hX hbl hbA hS ((7 * t) + 1) (by omega) hL jd_L_732 ?_
  refine j_rune (j_mkV X hP (hM _) jU_bs (j_pe X hP) jm_821 jm_819 jm_820 jm_6 jm_818 (i := 33) (by decide) rfl rfl (show jOk jy_M_answered 1 by unfold jOk; decide +kernel) ⟨by have := hrM.1; show _ + 1 ≤ 10; omega, by have := hrM.2.1; show 8 + (2 + 11) + _ ≤ 384; omega⟩ ⟨hrM.2.2.1, hrM.2.2.2⟩ hl.1 rfl (Nat.le_of_ble_eq_true rfl) ⟨by show _ ≤ 601024; omega, by show _ ≤ 7293034; omega⟩ jd_L_733) hS (fun v8 m8 h8 H locs e8 hP hS => ?_)
  obtain ⟨rfl, rfl, rfl⟩ := e8
  refine W.eq (g2 := F0 m 736 ls [.int (nI v), .int (nI v)]) rfl ?_
  refine kn_ceq X.1 X.2.1 jd_L_736 (tgt := 1125) (by decide) ⟨hv, hv⟩ (fun _ => ?_) (fun q => absurd rfl q)
  refine W.widen (k := cells + 1) (n := slots + 6) (by omega) (by omega) ?_
  exact kk _ _ _ _ _ hI hP hS (lv_sub hl [0, 1, 2, 3, 4] rfl)

set_option maxHeartbeats 4000000 in
theorem law_13 {p : Program} {l : Launch} {e : Env} {s : State} {m : MethodId} {args : Array Value} {below : List Frame} {meth : Method} {c : Code} {H : Heap} {locs : List Loc} {cells slots : Nat} {Q : State → Prop} {ls : Array Slot} {d : Nat → Nat} {D : va_G} {a : Nat → Nat} {n : Nat → Nat → Nat} {g : Nat → Nat} {b L t : Nat} {sc : Nat → Nat} {rt : Option FieldType} {I : (Nat → Nat → Nat) → (Nat → Nat) → Prop} (X : jX p s m args meth c code 7 rt "KeyDistillerLaw" d D) (hJ0 : jS (jAa a s.heap.size) s s.heap) (hNc : jNc s) (hsc : ∀ j, sc j < 4294967296) (hX : va_X b L (fun j => nI (sc j)) s s.heap) (hbl : b < s.heap.size) (hbA : ¬ jAa a s.heap.size b) (hL : L ≤ 3584) (ht : 7 * t + 7 ≤ L) (hcs : cells + 1 ≤ 601024 ∧ slots + 6 ≤ 7293034) (hP : va_P D jCl (jW d a n g) H) (hS : va_S (jAa a s.heap.size) s.heap H locs) (hl : lv_has ls 7 [(4, .int (nI (7 * t))), (0, .ref b), (1, .ref (a 0)), (2, .ref (a 33)), (3, .ref (a 51))]) (hT : ∀ (p0 : Nat) (p1 : Nat), p0 < 4294967296 → p1 < 4294967296 → TB I l d D a n g jy_L_bit jb_L_bit 5 [(0, 10, 13, 15), (0, 10, 17, 33)] [.ref (a 0), .int (nI p0), .int (nI p1), .ref (a 51)] jy_M_bit jb_M_bit 3 [.ref (a 33), .int (nI p0), .int (nI p1)]) (kk : ∀ (n2 : Nat → Nat → Nat) (g2 : Nat → Nat) (H1 : Heap) (locs1 : List Loc) (ls1 : Array Slot), I n2 g2 → va_P D jCl (jW d a n2 g2) H1 → va_S (jAa a s.heap.size) s.heap H1 locs1 → lv_has ls1 7 [(4, .int (nI (7 * t))), (0, .ref b), (1, .ref (a 0)), (2, .ref (a 33)), (3, .ref (a 51))] → W p l e room_1 s m args below meth c H1 locs1 (cells + 1) (slots + 6) Q (F0 m 1125 ls1 [])) : W p l e room_1 s m args below meth c H locs cells slots Q (F0 m 741 ls []) := by
  obtain ⟨k, w, m1, h1, m2, h2, rM, hW, hrM, hM, hk4, hth, hout, hI⟩ := hT (sc ((7 * t) + 1)) (sc ((7 * t) + 2)) (hsc _) (hsc _)
  refine lv_aload_n X.1 X.2.1 jd_L_741 rfl (lv_at hl 2 rfl) ?_
  refine lv_aload_n X.1 X.2.1 jd_L_742 rfl (lv_at hl 1 rfl) ?_
  refine lv_iload X.1 X.2.1 jd_L_743 (lv_at hl 0 rfl) ?_
  refine lv_iconst (v := nI 1) X.1 X.2.1 jd_L_745 (by decide) ?_
  refine kn_iadd X.1 X.2.1 jd_L_746 ?_
  refine j_sld X hX hbl hbA hS ((7 * t) + 1) (by omega) hL jd_L_747 ?_
  refine lv_aload_n X.1 X.2.1 jd_L_748 rfl (lv_at hl 1 rfl) ?_
  refine lv_iload X.1 X.2.1 jd_L_749 (lv_at hl 0 rfl) ?_
  refine lv_iconst (v := nI 2) X.1 X.2.1 jd_L_751 (by decide) ?_
  refine kn_iadd X.1 X.2.1 jd_L_752 ?_
  refine j_sld X hX hbl hbA hS ((7 * t) + 2) (by omega) hL jd_L_753 ?_
  refine lv_aload_n X.1 X.2.1 jd_L_754 rfl (lv_at hl 4 rfl) ?_
  have hJ : jS (fun _ => False) s H := (hJ0.kept hS.2.1).narrow (fun _ h => absurd h id)
  refine j_runw (j_mkW X hP hJ hNc hW jm_522 jm_521 jm_0 jm_520 (show jOk jy_L_bit 4 by unfold jOk; decide +kernel) (by decide) ⟨rfl, rfl⟩ hl.1 rfl (Nat.le_of_ble_eq_true rfl) hcs jd_L_755) hS (fun v9 m9 h9 H locs e9 hP hS => ?_)
  obtain ⟨rfl, rfl, rfl⟩ := e9
  refine W.eq (g2 := F0 m 758 ls [.int (nI k)]) rfl ?_
  refine lv_istore X.1 X.2.1 jd_L_758 hl (by decide) rfl (fun ls hl => ?_)
  have hl : lv_has ls 7 [(5, .int (nI k)), (4, .int (nI (7 * t))), (0, .ref b), (1, .ref (a 0)), (2, .ref (a 33)), (3, .ref (a 51))] := hl
  refine lv_aload_n X.1 X.2.1 jd_L_760 rfl (lv_at hl 4 rfl) ?_
  refine lv_aload_n X.1 X.2.1 jd_L_761 rfl (lv_at hl 2 rfl) ?_
  refine lv_iload X.1 X.2.1 jd_L_762 (lv_at hl 1 rfl) ?_
  refine lv_iconst (v := nI 1) X.1 X.2.1 jd_L_764 (by decide) ?_
  refine kn_iadd X.1 X.2.1 jd_L_765 ?_
  refine j_sld X hX hbl hbA hS ((7 * t) + 1) (by omega) hL jd_L_766 ?_
  refine lv_aload_n X.1 X.2.1 jd_L_767 rfl (lv_at hl 2 rfl) ?_
  refine lv_iload X.1 X.2.1 jd_L_768 (lv_at hl 1 rfl) ?_
  refine lv_iconst (v := nI 2) X.1 X.2.1 jd_L_770 (by decide) ?_
  refine kn_iadd X.1 X.2.1 jd_L_771 ?_
  refine j_sld X hX hbl hbA hS ((7 * t) + 2) (by omega) hL jd_L_772 ?_
  refine j_rune (j_mkV X hP (hM _) jU_bs (j_pe X hP) jm_826 jm_824 jm_825 jm_6 jm_823 (i := 33) (by decide) rfl rfl (show jOk jy_M_bit 2 by unfold jOk; decide +kernel) ⟨by have := hrM.1; show _ + 1 ≤ 10; omega, by have := hrM.2.1; show 8 + (3 + 11) + _ ≤ 384; omega⟩ ⟨hrM.2.2.1, hrM.2.2.2⟩ hl.1 rfl (Nat.le_of_ble_eq_true rfl) ⟨by show _ ≤ 601024; omega, by show _ ≤ 7293034; omega⟩ jd_L_773) hS (fun v8 m8 h8 H locs e8 hP hS => ?_)
  obtain ⟨rfl, rfl, rfl⟩ := e8
  refine W.eq (g2 := F0 m 776 ls [.int (nI w)]) rfl ?_
  refine lv_istore X.1 X.2.1 jd_L_776 hl (by decide) rfl (fun ls hl => ?_)
  have hl : lv_has ls 7 [(6, .int (nI w)), (5, .int (nI k)), (4, .int (nI (7 * t))), (0, .ref b), (1, .ref (a 0)), (2, .ref (a 33)), (3, .ref (a 51))] := hl
  refine lv_aload_n X.1 X.2.1 jd_L_778 rfl (lv_at hl 5 rfl) ?_
  refine j_run (j_mkV X hP (c_M_thrown l d D a m2 h2) jU_b (j_pp X hP) jm_704 jm_702 jm_703 jm_6 jm_701 (i := 33) (by decide) rfl rfl (show jOk jy_M_thrown 0 by unfold jOk; decide +kernel) (by decide) ⟨rfl, rfl⟩ hl.1 rfl (Nat.le_of_ble_eq_true rfl) ⟨by show _ ≤ 601024; omega, by show _ ≤ 7293034; omega⟩ jd_L_779) ?_
  refine W.eq (g2 := F0 m 782 ls [.int (nI (m2 33 0))]) rfl ?_
  refine lv_iload X.1 X.2.1 jd_L_782 (lv_at hl 1 rfl) ?_
  refine kn_ceq X.1 X.2.1 jd_L_784 (tgt := 789) (by decide) (by rw [hth]; omega) (fun _ => ?_) (fun q => absurd hth q)
  refine lv_iload X.1 X.2.1 jd_L_789 (lv_at hl 1 rfl) ?_
  refine kn_ne0 X.1 X.2.1 jd_L_791 (tgt := 806) (by decide) (by omega) (fun hk0 => ?_) (fun hk0 => ?_)
  · skip
    refine lv_goto X.1 X.2.1 jd_L_806 (tgt := 1125) (by decide) ?_
    exact kk _ _ _ _ _ hI hP hS (lv_sub hl [2, 3, 4, 5, 6] rfl)
  · skip
    refine lv_aload_n X.1 X.2.1 jd_L_794 rfl (lv_at hl 6 rfl) ?_
    refine lv_iconst (v := nI 0) X.1 X.2.1 jd_L_795 (by decide) ?_
    refine j_lld X hP jd_L_796 ?_
    refine lv_iload X.1 X.2.1 jd_L_797 (lv_at hl 0 rfl) ?_
    refine lv_i2l (v := lN w) X.1 X.2.1 jd_L_799 (nI_l (hout hk0).2) ?_
    refine kn_leq X.1 X.2.1 jd_L_800 jd_L_801 (tgt := 806) (by decide) (hout hk0).1 ?_
    refine lv_goto X.1 X.2.1 jd_L_806 (tgt := 1125) (by decide) ?_
    exact kk _ _ _ _ _ hI hP hS (lv_sub hl [2, 3, 4, 5, 6] rfl)

set_option maxHeartbeats 4000000 in
theorem law_14 {p : Program} {l : Launch} {e : Env} {s : State} {m : MethodId} {args : Array Value} {below : List Frame} {meth : Method} {c : Code} {H : Heap} {locs : List Loc} {cells slots : Nat} {Q : State → Prop} {ls : Array Slot} {d : Nat → Nat} {D : va_G} {a : Nat → Nat} {n : Nat → Nat → Nat} {g : Nat → Nat} {b L t : Nat} {sc : Nat → Nat} {rt : Option FieldType} {I : (Nat → Nat → Nat) → (Nat → Nat) → Prop} (X : jX p s m args meth c code 7 rt "KeyDistillerLaw" d D) (hJ0 : jS (jAa a s.heap.size) s s.heap) (hNc : jNc s) (hsc : ∀ j, sc j < 4294967296) (hX : va_X b L (fun j => nI (sc j)) s s.heap) (hbl : b < s.heap.size) (hbA : ¬ jAa a s.heap.size b) (hL : L ≤ 3584) (ht : 7 * t + 7 ≤ L) (hcs : cells + 1 ≤ 601024 ∧ slots + 6 ≤ 7293034) (hP : va_P D jCl (jW d a n g) H) (hS : va_S (jAa a s.heap.size) s.heap H locs) (hl : lv_has ls 7 [(4, .int (nI (7 * t))), (0, .ref b), (1, .ref (a 0)), (2, .ref (a 33)), (3, .ref (a 51))]) (hT : ∀ (p0 : Nat) (p1 : Nat), p0 < 4294967296 → p1 < 4294967296 → TB I l d D a n g jy_L_item jb_L_item 5 [(0, 10, 13, 15), (0, 10, 17, 33)] [.ref (a 0), .int (nI p0), .int (nI p1), .ref (a 51)] jy_M_item jb_M_item 3 [.ref (a 33), .int (nI p0), .int (nI p1)]) (kk : ∀ (n2 : Nat → Nat → Nat) (g2 : Nat → Nat) (H1 : Heap) (locs1 : List Loc) (ls1 : Array Slot), I n2 g2 → va_P D jCl (jW d a n2 g2) H1 → va_S (jAa a s.heap.size) s.heap H1 locs1 → lv_has ls1 7 [(4, .int (nI (7 * t))), (0, .ref b), (1, .ref (a 0)), (2, .ref (a 33)), (3, .ref (a 51))] → W p l e room_1 s m args below meth c H1 locs1 (cells + 1) (slots + 6) Q (F0 m 1125 ls1 [])) : W p l e room_1 s m args below meth c H locs cells slots Q (F0 m 809 ls []) := by
  obtain ⟨k, w, m1, h1, m2, h2, rM, hW, hrM, hM, hk4, hth, hout, hI⟩ := hT (sc ((7 * t) + 1)) (sc ((7 * t) + 2)) (hsc _) (hsc _)
  refine lv_aload_n X.1 X.2.1 jd_L_809 rfl (lv_at hl 2 rfl) ?_
  refine lv_aload_n X.1 X.2.1 jd_L_810 rfl (lv_at hl 1 rfl) ?_
  refine lv_iload X.1 X.2.1 jd_L_811 (lv_at hl 0 rfl) ?_
  refine lv_iconst (v := nI 1) X.1 X.2.1 jd_L_813 (by decide) ?_
  refine kn_iadd X.1 X.2.1 jd_L_814 ?_
  refine j_sld X hX hbl hbA hS ((7 * t) + 1) (by omega) hL jd_L_815 ?_
  refine lv_aload_n X.1 X.2.1 jd_L_816 rfl (lv_at hl 1 rfl) ?_
  refine lv_iload X.1 X.2.1 jd_L_817 (lv_at hl 0 rfl) ?_
  refine lv_iconst (v := nI 2) X.1 X.2.1 jd_L_819 (by decide) ?_
  refine kn_iadd X.1 X.2.1 jd_L_820 ?_
  refine j_sld X hX hbl hbA hS ((7 * t) + 2) (by omega) hL jd_L_821 ?_
  refine lv_aload_n X.1 X.2.1 jd_L_822 rfl (lv_at hl 4 rfl) ?_
  have hJ : jS (fun _ => False) s H := (hJ0.kept hS.2.1).narrow (fun _ h => absurd h id)
  refine j_runw (j_mkW X hP hJ hNc hW jm_531 jm_530 jm_0 jm_529 (show jOk jy_L_item 4 by unfold jOk; decide +kernel) (by decide) ⟨rfl, rfl⟩ hl.1 rfl (Nat.le_of_ble_eq_true rfl) hcs jd_L_823) hS (fun v9 m9 h9 H locs e9 hP hS => ?_)
  obtain ⟨rfl, rfl, rfl⟩ := e9
  refine W.eq (g2 := F0 m 826 ls [.int (nI k)]) rfl ?_
  refine lv_istore X.1 X.2.1 jd_L_826 hl (by decide) rfl (fun ls hl => ?_)
  have hl : lv_has ls 7 [(5, .int (nI k)), (4, .int (nI (7 * t))), (0, .ref b), (1, .ref (a 0)), (2, .ref (a 33)), (3, .ref (a 51))] := hl
  refine lv_aload_n X.1 X.2.1 jd_L_828 rfl (lv_at hl 4 rfl) ?_
  refine lv_aload_n X.1 X.2.1 jd_L_829 rfl (lv_at hl 2 rfl) ?_
  refine lv_iload X.1 X.2.1 jd_L_830 (lv_at hl 1 rfl) ?_
  refine lv_iconst (v := nI 1) X.1 X.2.1 jd_L_832 (by decide) ?_
  refine kn_iadd X.1 X.2.1 jd_L_833 ?_
  refine j_sld X hX hbl hbA hS ((7 * t) + 1) (by omega) hL jd_L_834 ?_
  refine lv_aload_n X.1 X.2.1 jd_L_835 rfl (lv_at hl 2 rfl) ?_
  refine lv_iload X.1 X.2.1 jd_L_836 (lv_at hl 1 rfl) ?_
  refine lv_iconst (v := nI 2) X.1 X.2.1 jd_L_838 (by decide) ?_
  refine kn_iadd X.1 X.2.1 jd_L_839 ?_
  refine j_sld X hX hbl hbA hS ((7 * t) + 2) (by omega) hL jd_L_840 ?_
  refine j_rune (j_mkV X hP (hM _) jU_bs (j_pe X hP) jm_830 jm_828 jm_829 jm_6 jm_827 (i := 33) (by decide) rfl rfl (show jOk jy_M_item 2 by unfold jOk; decide +kernel) ⟨by have := hrM.1; show _ + 1 ≤ 10; omega, by have := hrM.2.1; show 8 + (3 + 11) + _ ≤ 384; omega⟩ ⟨hrM.2.2.1, hrM.2.2.2⟩ hl.1 rfl (Nat.le_of_ble_eq_true rfl) ⟨by show _ ≤ 601024; omega, by show _ ≤ 7293034; omega⟩ jd_L_841) hS (fun v8 m8 h8 H locs e8 hP hS => ?_)
  obtain ⟨rfl, rfl, rfl⟩ := e8
  refine W.eq (g2 := F0 m 844 ls [.int (nI w)]) rfl ?_
  refine lv_istore X.1 X.2.1 jd_L_844 hl (by decide) rfl (fun ls hl => ?_)
  have hl : lv_has ls 7 [(6, .int (nI w)), (5, .int (nI k)), (4, .int (nI (7 * t))), (0, .ref b), (1, .ref (a 0)), (2, .ref (a 33)), (3, .ref (a 51))] := hl
  refine lv_aload_n X.1 X.2.1 jd_L_846 rfl (lv_at hl 5 rfl) ?_
  refine j_run (j_mkV X hP (c_M_thrown l d D a m2 h2) jU_b (j_pp X hP) jm_704 jm_702 jm_703 jm_6 jm_701 (i := 33) (by decide) rfl rfl (show jOk jy_M_thrown 0 by unfold jOk; decide +kernel) (by decide) ⟨rfl, rfl⟩ hl.1 rfl (Nat.le_of_ble_eq_true rfl) ⟨by show _ ≤ 601024; omega, by show _ ≤ 7293034; omega⟩ jd_L_847) ?_
  refine W.eq (g2 := F0 m 850 ls [.int (nI (m2 33 0))]) rfl ?_
  refine lv_iload X.1 X.2.1 jd_L_850 (lv_at hl 1 rfl) ?_
  refine kn_ceq X.1 X.2.1 jd_L_852 (tgt := 857) (by decide) (by rw [hth]; omega) (fun _ => ?_) (fun q => absurd hth q)
  refine lv_iload X.1 X.2.1 jd_L_857 (lv_at hl 1 rfl) ?_
  refine kn_ne0 X.1 X.2.1 jd_L_859 (tgt := 874) (by decide) (by omega) (fun hk0 => ?_) (fun hk0 => ?_)
  · skip
    refine lv_goto X.1 X.2.1 jd_L_874 (tgt := 1125) (by decide) ?_
    exact kk _ _ _ _ _ hI hP hS (lv_sub hl [2, 3, 4, 5, 6] rfl)
  · skip
    refine lv_aload_n X.1 X.2.1 jd_L_862 rfl (lv_at hl 6 rfl) ?_
    refine lv_iconst (v := nI 0) X.1 X.2.1 jd_L_863 (by decide) ?_
    refine j_lld X hP jd_L_864 ?_
    refine lv_iload X.1 X.2.1 jd_L_865 (lv_at hl 0 rfl) ?_
    refine lv_i2l (v := lN w) X.1 X.2.1 jd_L_867 (nI_l (hout hk0).2) ?_
    refine kn_leq X.1 X.2.1 jd_L_868 jd_L_869 (tgt := 874) (by decide) (hout hk0).1 ?_
    refine lv_goto X.1 X.2.1 jd_L_874 (tgt := 1125) (by decide) ?_
    exact kk _ _ _ _ _ hI hP hS (lv_sub hl [2, 3, 4, 5, 6] rfl)

set_option maxHeartbeats 4000000 in
theorem law_15 {p : Program} {l : Launch} {e : Env} {s : State} {m : MethodId} {args : Array Value} {below : List Frame} {meth : Method} {c : Code} {H : Heap} {locs : List Loc} {cells slots : Nat} {Q : State → Prop} {ls : Array Slot} {d : Nat → Nat} {D : va_G} {a : Nat → Nat} {n : Nat → Nat → Nat} {g : Nat → Nat} {b L t : Nat} {sc : Nat → Nat} {rt : Option FieldType} {I : (Nat → Nat → Nat) → (Nat → Nat) → Prop} (X : jX p s m args meth c code 7 rt "KeyDistillerLaw" d D) (hJ0 : jS (jAa a s.heap.size) s s.heap) (hNc : jNc s) (hsc : ∀ j, sc j < 4294967296) (hX : va_X b L (fun j => nI (sc j)) s s.heap) (hbl : b < s.heap.size) (hbA : ¬ jAa a s.heap.size b) (hL : L ≤ 3584) (ht : 7 * t + 7 ≤ L) (hcs : cells + 1 ≤ 601024 ∧ slots + 6 ≤ 7293034) (hP : va_P D jCl (jW d a n g) H) (hS : va_S (jAa a s.heap.size) s.heap H locs) (hl : lv_has ls 7 [(4, .int (nI (7 * t))), (0, .ref b), (1, .ref (a 0)), (2, .ref (a 33)), (3, .ref (a 51))]) (hT : ∀ (p0 : Nat) (p1 : Nat), p0 < 4294967296 → p1 < 4294967296 → TB I l d D a n g jy_L_tag jb_L_tag 5 [(0, 10, 13, 15), (0, 10, 17, 13)] [.ref (a 0), .int (nI p0), .int (nI p1), .ref (a 51)] jy_M_tag jb_M_tag 3 [.ref (a 33), .int (nI p0), .int (nI p1)]) (kk : ∀ (n2 : Nat → Nat → Nat) (g2 : Nat → Nat) (H1 : Heap) (locs1 : List Loc) (ls1 : Array Slot), I n2 g2 → va_P D jCl (jW d a n2 g2) H1 → va_S (jAa a s.heap.size) s.heap H1 locs1 → lv_has ls1 7 [(4, .int (nI (7 * t))), (0, .ref b), (1, .ref (a 0)), (2, .ref (a 33)), (3, .ref (a 51))] → W p l e room_1 s m args below meth c H1 locs1 (cells + 1) (slots + 6) Q (F0 m 1125 ls1 [])) : W p l e room_1 s m args below meth c H locs cells slots Q (F0 m 877 ls []) := by
  obtain ⟨k, w, m1, h1, m2, h2, rM, hW, hrM, hM, hk4, hth, hout, hI⟩ := hT (sc ((7 * t) + 1)) (sc ((7 * t) + 2)) (hsc _) (hsc _)
  refine lv_aload_n X.1 X.2.1 jd_L_877 rfl (lv_at hl 2 rfl) ?_
  refine lv_aload_n X.1 X.2.1 jd_L_878 rfl (lv_at hl 1 rfl) ?_
  refine lv_iload X.1 X.2.1 jd_L_879 (lv_at hl 0 rfl) ?_
  refine lv_iconst (v := nI 1) X.1 X.2.1 jd_L_881 (by decide) ?_
  refine kn_iadd X.1 X.2.1 jd_L_882 ?_
  refine j_sld X hX hbl hbA hS ((7 * t) + 1) (by omega) hL jd_L_883 ?_
  refine lv_aload_n X.1 X.2.1 jd_L_884 rfl (lv_at hl 1 rfl) ?_
  refine lv_iload X.1 X.2.1 jd_L_885 (lv_at hl 0 rfl) ?_
  refine lv_iconst (v := nI 2) X.1 X.2.1 jd_L_887 (by decide) ?_
  refine kn_iadd X.1 X.2.1 jd_L_888 ?_
  refine j_sld X hX hbl hbA hS ((7 * t) + 2) (by omega) hL jd_L_889 ?_
  refine lv_aload_n X.1 X.2.1 jd_L_890 rfl (lv_at hl 4 rfl) ?_
  have hJ : jS (fun _ => False) s H := (hJ0.kept hS.2.1).narrow (fun _ h => absurd h id)
  refine j_runw (j_mkW X hP hJ hNc hW jm_539 jm_538 jm_0 jm_537 (show jOk jy_L_tag 4 by unfold jOk; decide +kernel) (by decide) ⟨rfl, rfl⟩ hl.1 rfl (Nat.le_of_ble_eq_true rfl) hcs jd_L_891) hS (fun v9 m9 h9 H locs e9 hP hS => ?_)
  obtain ⟨rfl, rfl, rfl⟩ := e9
  refine W.eq (g2 := F0 m 894 ls [.int (nI k)]) rfl ?_
  refine lv_istore X.1 X.2.1 jd_L_894 hl (by decide) rfl (fun ls hl => ?_)
  have hl : lv_has ls 7 [(5, .int (nI k)), (4, .int (nI (7 * t))), (0, .ref b), (1, .ref (a 0)), (2, .ref (a 33)), (3, .ref (a 51))] := hl
  refine lv_aload_n X.1 X.2.1 jd_L_896 rfl (lv_at hl 4 rfl) ?_
  refine lv_aload_n X.1 X.2.1 jd_L_897 rfl (lv_at hl 2 rfl) ?_
  refine lv_iload X.1 X.2.1 jd_L_898 (lv_at hl 1 rfl) ?_
  refine lv_iconst (v := nI 1) X.1 X.2.1 jd_L_900 (by decide) ?_
  refine kn_iadd X.1 X.2.1 jd_L_901 ?_
  refine j_sld X hX hbl hbA hS ((7 * t) + 1) (by omega) hL jd_L_902 ?_
  refine lv_aload_n X.1 X.2.1 jd_L_903 rfl (lv_at hl 2 rfl) ?_
  refine lv_iload X.1 X.2.1 jd_L_904 (lv_at hl 1 rfl) ?_
  refine lv_iconst (v := nI 2) X.1 X.2.1 jd_L_906 (by decide) ?_
  refine kn_iadd X.1 X.2.1 jd_L_907 ?_
  refine j_sld X hX hbl hbA hS ((7 * t) + 2) (by omega) hL jd_L_908 ?_
  refine j_rune (j_mkV X hP (hM _) jU_bs (j_pe X hP) jm_834 jm_832 jm_833 jm_6 jm_831 (i := 33) (by decide) rfl rfl (show jOk jy_M_tag 2 by unfold jOk; decide +kernel) ⟨by have := hrM.1; show _ + 1 ≤ 10; omega, by have := hrM.2.1; show 8 + (3 + 11) + _ ≤ 384; omega⟩ ⟨hrM.2.2.1, hrM.2.2.2⟩ hl.1 rfl (Nat.le_of_ble_eq_true rfl) ⟨by show _ ≤ 601024; omega, by show _ ≤ 7293034; omega⟩ jd_L_909) hS (fun v8 m8 h8 H locs e8 hP hS => ?_)
  obtain ⟨rfl, rfl, rfl⟩ := e8
  refine W.eq (g2 := F0 m 912 ls [.int (nI w)]) rfl ?_
  refine lv_istore X.1 X.2.1 jd_L_912 hl (by decide) rfl (fun ls hl => ?_)
  have hl : lv_has ls 7 [(6, .int (nI w)), (5, .int (nI k)), (4, .int (nI (7 * t))), (0, .ref b), (1, .ref (a 0)), (2, .ref (a 33)), (3, .ref (a 51))] := hl
  refine lv_aload_n X.1 X.2.1 jd_L_914 rfl (lv_at hl 5 rfl) ?_
  refine j_run (j_mkV X hP (c_M_thrown l d D a m2 h2) jU_b (j_pp X hP) jm_704 jm_702 jm_703 jm_6 jm_701 (i := 33) (by decide) rfl rfl (show jOk jy_M_thrown 0 by unfold jOk; decide +kernel) (by decide) ⟨rfl, rfl⟩ hl.1 rfl (Nat.le_of_ble_eq_true rfl) ⟨by show _ ≤ 601024; omega, by show _ ≤ 7293034; omega⟩ jd_L_915) ?_
  refine W.eq (g2 := F0 m 918 ls [.int (nI (m2 33 0))]) rfl ?_
  refine lv_iload X.1 X.2.1 jd_L_918 (lv_at hl 1 rfl) ?_
  refine kn_ceq X.1 X.2.1 jd_L_920 (tgt := 925) (by decide) (by rw [hth]; omega) (fun _ => ?_) (fun q => absurd hth q)
  refine lv_iload X.1 X.2.1 jd_L_925 (lv_at hl 1 rfl) ?_
  refine kn_ne0 X.1 X.2.1 jd_L_927 (tgt := 942) (by decide) (by omega) (fun hk0 => ?_) (fun hk0 => ?_)
  · skip
    refine lv_goto X.1 X.2.1 jd_L_942 (tgt := 1125) (by decide) ?_
    exact kk _ _ _ _ _ hI hP hS (lv_sub hl [2, 3, 4, 5, 6] rfl)
  · skip
    refine lv_aload_n X.1 X.2.1 jd_L_930 rfl (lv_at hl 6 rfl) ?_
    refine lv_iconst (v := nI 0) X.1 X.2.1 jd_L_931 (by decide) ?_
    refine j_lld X hP jd_L_932 ?_
    refine lv_iload X.1 X.2.1 jd_L_933 (lv_at hl 0 rfl) ?_
    refine lv_i2l (v := lN w) X.1 X.2.1 jd_L_935 (nI_l (hout hk0).2) ?_
    refine kn_leq X.1 X.2.1 jd_L_936 jd_L_937 (tgt := 942) (by decide) (hout hk0).1 ?_
    refine lv_goto X.1 X.2.1 jd_L_942 (tgt := 1125) (by decide) ?_
    exact kk _ _ _ _ _ hI hP hS (lv_sub hl [2, 3, 4, 5, 6] rfl)

set_option maxHeartbeats 4000000 in
theorem law_16 {p : Program} {l : Launch} {e : Env} {s : State} {m : MethodId} {args : Array Value} {below : List Frame} {meth : Method} {c : Code} {H : Heap} {locs : List Loc} {cells slots : Nat} {Q : State → Prop} {ls : Array Slot} {d : Nat → Nat} {D : va_G} {a : Nat → Nat} {n : Nat → Nat → Nat} {g : Nat → Nat} {b L t : Nat} {sc : Nat → Nat} {rt : Option FieldType} {I : (Nat → Nat → Nat) → (Nat → Nat) → Prop} (X : jX p s m args meth c code 7 rt "KeyDistillerLaw" d D) (hJ0 : jS (jAa a s.heap.size) s s.heap) (hNc : jNc s) (hsc : ∀ j, sc j < 4294967296) (hX : va_X b L (fun j => nI (sc j)) s s.heap) (hbl : b < s.heap.size) (hbA : ¬ jAa a s.heap.size b) (hL : L ≤ 3584) (ht : 7 * t + 7 ≤ L) (hcs : cells + 1 ≤ 601024 ∧ slots + 6 ≤ 7293034) (hP : va_P D jCl (jW d a n g) H) (hS : va_S (jAa a s.heap.size) s.heap H locs) (hl : lv_has ls 7 [(4, .int (nI (7 * t))), (0, .ref b), (1, .ref (a 0)), (2, .ref (a 33)), (3, .ref (a 51))]) (hT : ∀ (p0 : Nat) (p1 : Nat) (p2 : Nat), p0 < 18446744073709551616 → p1 < 4294967296 → p2 < 4294967296 → TB I l d D a n g jy_L_shorten jb_L_shorten 7 [(0, 13, 16, 15), (0, 13, 20, 13), (0, 13, 24, 51)] [.ref (a 0), .long (lN p0), .int (nI p1), .int (nI p2), .ref (a 51)] jy_M_shorten jb_M_shorten 10 [.ref (a 33), .long (lN p0), .int (nI p1), .int (nI p2)]) (kk : ∀ (n2 : Nat → Nat → Nat) (g2 : Nat → Nat) (H1 : Heap) (locs1 : List Loc) (ls1 : Array Slot), I n2 g2 → va_P D jCl (jW d a n2 g2) H1 → va_S (jAa a s.heap.size) s.heap H1 locs1 → lv_has ls1 7 [(4, .int (nI (7 * t))), (0, .ref b), (1, .ref (a 0)), (2, .ref (a 33)), (3, .ref (a 51))] → W p l e room_1 s m args below meth c H1 locs1 (cells + 1) (slots + 6) Q (F0 m 1125 ls1 [])) : W p l e room_1 s m args below meth c H locs cells slots Q (F0 m 945 ls []) := by
  obtain ⟨z, hz, ez⟩ := wb_of ((nI (sc ((7 * t) + 1))).toInt64 <<< ((nI 32).toInt64 &&& 63) ||| ((nI (sc ((7 * t) + 2))).toInt64 &&& lN 4294967295))
  obtain ⟨k, w, m1, h1, m2, h2, rM, hW, hrM, hM, hk4, hth, hout, hI⟩ := hT z (sc ((7 * t) + 3)) (sc ((7 * t) + 4)) hz (hsc _) (hsc _)
  refine lv_aload_n X.1 X.2.1 jd_L_945 rfl (lv_at hl 2 rfl) ?_
  refine lv_aload_n X.1 X.2.1 jd_L_946 rfl (lv_at hl 1 rfl) ?_
  refine lv_iload X.1 X.2.1 jd_L_947 (lv_at hl 0 rfl) ?_
  refine lv_iconst (v := nI 1) X.1 X.2.1 jd_L_949 (by decide) ?_
  refine kn_iadd X.1 X.2.1 jd_L_950 ?_
  refine j_sld X hX hbl hbA hS ((7 * t) + 1) (by omega) hL jd_L_951 ?_
  refine lv_i2l (v := (nI (sc ((7 * t) + 1))).toInt64) X.1 X.2.1 jd_L_952 rfl ?_
  refine lv_bipush (v := nI 32) X.1 X.2.1 jd_L_953 (by decide) ?_
  refine lv_lshl (v := (nI (sc ((7 * t) + 1))).toInt64 <<< ((nI 32).toInt64 &&& 63)) X.1 X.2.1 jd_L_955 rfl ?_
  refine lv_aload_n X.1 X.2.1 jd_L_956 rfl (lv_at hl 1 rfl) ?_
  refine lv_iload X.1 X.2.1 jd_L_957 (lv_at hl 0 rfl) ?_
  refine lv_iconst (v := nI 2) X.1 X.2.1 jd_L_959 (by decide) ?_
  refine kn_iadd X.1 X.2.1 jd_L_960 ?_
  refine j_sld X hX hbl hbA hS ((7 * t) + 2) (by omega) hL jd_L_961 ?_
  refine lv_i2l (v := (nI (sc ((7 * t) + 2))).toInt64) X.1 X.2.1 jd_L_962 rfl ?_
  refine lv_ldc2 (v := lN 4294967295) X.1 X.2.1 X.2.2.2.2.2.1 (X.2.2.2.2.2.2.1 _ jm_852) jd_L_963 ?_
  refine lv_land X.1 X.2.1 jd_L_966 ?_
  refine lv_lor X.1 X.2.1 jd_L_967 ?_
  refine kn_isl (y := z) ez ?_
  refine lv_aload_n X.1 X.2.1 jd_L_968 rfl (lv_at hl 1 rfl) ?_
  refine lv_iload X.1 X.2.1 jd_L_969 (lv_at hl 0 rfl) ?_
  refine lv_iconst (v := nI 3) X.1 X.2.1 jd_L_971 (by decide) ?_
  refine kn_iadd X.1 X.2.1 jd_L_972 ?_
  refine j_sld X hX hbl hbA hS ((7 * t) + 3) (by omega) hL jd_L_973 ?_
  refine lv_aload_n X.1 X.2.1 jd_L_974 rfl (lv_at hl 1 rfl) ?_
  refine lv_iload X.1 X.2.1 jd_L_975 (lv_at hl 0 rfl) ?_
  refine lv_iconst (v := nI 4) X.1 X.2.1 jd_L_977 (by decide) ?_
  refine kn_iadd X.1 X.2.1 jd_L_978 ?_
  refine j_sld X hX hbl hbA hS ((7 * t) + 4) (by omega) hL jd_L_979 ?_
  refine lv_aload_n X.1 X.2.1 jd_L_980 rfl (lv_at hl 4 rfl) ?_
  have hJ : jS (fun _ => False) s H := (hJ0.kept hS.2.1).narrow (fun _ h => absurd h id)
  refine j_runw (j_mkW X hP hJ hNc hW jm_565 jm_564 jm_0 jm_563 (show jOk jy_L_shorten 5 by unfold jOk; decide +kernel) (by decide) ⟨rfl, rfl⟩ hl.1 rfl (Nat.le_of_ble_eq_true rfl) hcs jd_L_981) hS (fun v9 m9 h9 H locs e9 hP hS => ?_)
  obtain ⟨rfl, rfl, rfl⟩ := e9
  refine W.eq (g2 := F0 m 984 ls [.int (nI k)]) rfl ?_
  refine lv_istore X.1 X.2.1 jd_L_984 hl (by decide) rfl (fun ls hl => ?_)
  have hl : lv_has ls 7 [(5, .int (nI k)), (4, .int (nI (7 * t))), (0, .ref b), (1, .ref (a 0)), (2, .ref (a 33)), (3, .ref (a 51))] := hl
  refine lv_aload_n X.1 X.2.1 jd_L_986 rfl (lv_at hl 4 rfl) ?_
  refine lv_aload_n X.1 X.2.1 jd_L_987 rfl (lv_at hl 2 rfl) ?_
  refine lv_iload X.1 X.2.1 jd_L_988 (lv_at hl 1 rfl) ?_
  refine lv_iconst (v := nI 1) X.1 X.2.1 jd_L_990 (by decide) ?_
  refine kn_iadd X.1 X.2.1 jd_L_991 ?_
  refine j_sld X hX hbl hbA hS ((7 * t) + 1) (by omega) hL jd_L_992 ?_
  refine lv_i2l (v := (nI (sc ((7 * t) + 1))).toInt64) X.1 X.2.1 jd_L_993 rfl ?_
  refine lv_bipush (v := nI 32) X.1 X.2.1 jd_L_994 (by decide) ?_
  refine lv_lshl (v := (nI (sc ((7 * t) + 1))).toInt64 <<< ((nI 32).toInt64 &&& 63)) X.1 X.2.1 jd_L_996 rfl ?_
  refine lv_aload_n X.1 X.2.1 jd_L_997 rfl (lv_at hl 2 rfl) ?_
  refine lv_iload X.1 X.2.1 jd_L_998 (lv_at hl 1 rfl) ?_
  refine lv_iconst (v := nI 2) X.1 X.2.1 jd_L_1000 (by decide) ?_
  refine kn_iadd X.1 X.2.1 jd_L_1001 ?_
  refine j_sld X hX hbl hbA hS ((7 * t) + 2) (by omega) hL jd_L_1002 ?_
  refine lv_i2l (v := (nI (sc ((7 * t) + 2))).toInt64) X.1 X.2.1 jd_L_1003 rfl ?_
  refine lv_ldc2 (v := lN 4294967295) X.1 X.2.1 X.2.2.2.2.2.1 (X.2.2.2.2.2.2.1 _ jm_852) jd_L_1004 ?_
  refine lv_land X.1 X.2.1 jd_L_1007 ?_
  refine lv_lor X.1 X.2.1 jd_L_1008 ?_
  refine kn_isl (y := z) ez ?_
  refine lv_aload_n X.1 X.2.1 jd_L_1009 rfl (lv_at hl 2 rfl) ?_
  refine lv_iload X.1 X.2.1 jd_L_1010 (lv_at hl 1 rfl) ?_
  refine lv_iconst (v := nI 3) X.1 X.2.1 jd_L_1012 (by decide) ?_
  refine kn_iadd X.1 X.2.1 jd_L_1013 ?_
  refine j_sld X hX hbl hbA hS ((7 * t) + 3) (by omega) hL jd_L_1014 ?_
  refine lv_aload_n X.1 X.2.1 jd_L_1015 rfl (lv_at hl 2 rfl) ?_
  refine lv_iload X.1 X.2.1 jd_L_1016 (lv_at hl 1 rfl) ?_
  refine lv_iconst (v := nI 4) X.1 X.2.1 jd_L_1018 (by decide) ?_
  refine kn_iadd X.1 X.2.1 jd_L_1019 ?_
  refine j_sld X hX hbl hbA hS ((7 * t) + 4) (by omega) hL jd_L_1020 ?_
  refine j_rune (j_mkV X hP (hM _) jU_bs (j_pe X hP) jm_847 jm_845 jm_846 jm_6 jm_844 (i := 33) (by decide) rfl rfl (show jOk jy_M_shorten 3 by unfold jOk; decide +kernel) ⟨by have := hrM.1; show _ + 1 ≤ 10; omega, by have := hrM.2.1; show 8 + (10 + 11) + _ ≤ 384; omega⟩ ⟨hrM.2.2.1, hrM.2.2.2⟩ hl.1 rfl (Nat.le_of_ble_eq_true rfl) ⟨by show _ ≤ 601024; omega, by show _ ≤ 7293034; omega⟩ jd_L_1021) hS (fun v8 m8 h8 H locs e8 hP hS => ?_)
  obtain ⟨rfl, rfl, rfl⟩ := e8
  refine W.eq (g2 := F0 m 1024 ls [.int (nI w)]) rfl ?_
  refine lv_istore X.1 X.2.1 jd_L_1024 hl (by decide) rfl (fun ls hl => ?_)
  have hl : lv_has ls 7 [(6, .int (nI w)), (5, .int (nI k)), (4, .int (nI (7 * t))), (0, .ref b), (1, .ref (a 0)), (2, .ref (a 33)), (3, .ref (a 51))] := hl
  refine lv_aload_n X.1 X.2.1 jd_L_1026 rfl (lv_at hl 5 rfl) ?_
  refine j_run (j_mkV X hP (c_M_thrown l d D a m2 h2) jU_b (j_pp X hP) jm_704 jm_702 jm_703 jm_6 jm_701 (i := 33) (by decide) rfl rfl (show jOk jy_M_thrown 0 by unfold jOk; decide +kernel) (by decide) ⟨rfl, rfl⟩ hl.1 rfl (Nat.le_of_ble_eq_true rfl) ⟨by show _ ≤ 601024; omega, by show _ ≤ 7293034; omega⟩ jd_L_1027) ?_
  refine W.eq (g2 := F0 m 1030 ls [.int (nI (m2 33 0))]) rfl ?_
  refine lv_iload X.1 X.2.1 jd_L_1030 (lv_at hl 1 rfl) ?_
  refine kn_ceq X.1 X.2.1 jd_L_1032 (tgt := 1037) (by decide) (by rw [hth]; omega) (fun _ => ?_) (fun q => absurd hth q)
  refine lv_iload X.1 X.2.1 jd_L_1037 (lv_at hl 1 rfl) ?_
  refine kn_ne0 X.1 X.2.1 jd_L_1039 (tgt := 1054) (by decide) (by omega) (fun hk0 => ?_) (fun hk0 => ?_)
  · skip
    refine lv_goto X.1 X.2.1 jd_L_1054 (tgt := 1125) (by decide) ?_
    exact kk _ _ _ _ _ hI hP hS (lv_sub hl [2, 3, 4, 5, 6] rfl)
  · skip
    refine lv_aload_n X.1 X.2.1 jd_L_1042 rfl (lv_at hl 6 rfl) ?_
    refine lv_iconst (v := nI 0) X.1 X.2.1 jd_L_1043 (by decide) ?_
    refine j_lld X hP jd_L_1044 ?_
    refine lv_iload X.1 X.2.1 jd_L_1045 (lv_at hl 0 rfl) ?_
    refine lv_i2l (v := lN w) X.1 X.2.1 jd_L_1047 (nI_l (hout hk0).2) ?_
    refine kn_leq X.1 X.2.1 jd_L_1048 jd_L_1049 (tgt := 1054) (by decide) (hout hk0).1 ?_
    refine lv_goto X.1 X.2.1 jd_L_1054 (tgt := 1125) (by decide) ?_
    exact kk _ _ _ _ _ hI hP hS (lv_sub hl [2, 3, 4, 5, 6] rfl)

set_option maxHeartbeats 4000000 in
theorem law_17 {p : Program} {l : Launch} {e : Env} {s : State} {m : MethodId} {args : Array Value} {below : List Frame} {meth : Method} {c : Code} {H : Heap} {locs : List Loc} {cells slots : Nat} {Q : State → Prop} {ls : Array Slot} {d : Nat → Nat} {D : va_G} {a : Nat → Nat} {n : Nat → Nat → Nat} {g : Nat → Nat} {b L t : Nat} {sc : Nat → Nat} {rt : Option FieldType} {I : (Nat → Nat → Nat) → (Nat → Nat) → Prop} (X : jX p s m args meth c code 7 rt "KeyDistillerLaw" d D) (hJ0 : jS (jAa a s.heap.size) s s.heap) (hNc : jNc s) (hsc : ∀ j, sc j < 4294967296) (hX : va_X b L (fun j => nI (sc j)) s s.heap) (hbl : b < s.heap.size) (hbA : ¬ jAa a s.heap.size b) (hL : L ≤ 3584) (ht : 7 * t + 7 ≤ L) (hcs : cells + 1 ≤ 601024 ∧ slots + 6 ≤ 7293034) (hP : va_P D jCl (jW d a n g) H) (hS : va_S (jAa a s.heap.size) s.heap H locs) (hl : lv_has ls 7 [(4, .int (nI (7 * t))), (0, .ref b), (1, .ref (a 0)), (2, .ref (a 33)), (3, .ref (a 51))]) (hT : ∀ (p0 : Nat) (p1 : Nat), p0 < 4294967296 → p1 < 4294967296 → TB I l d D a n g jy_L_key jb_L_key 5 [(0, 10, 13, 33)] [.ref (a 0), .int (nI p0), .int (nI p1), .ref (a 51)] jy_M_key jb_M_key 3 [.ref (a 33), .int (nI p0), .int (nI p1)]) (kk : ∀ (n2 : Nat → Nat → Nat) (g2 : Nat → Nat) (H1 : Heap) (locs1 : List Loc) (ls1 : Array Slot), I n2 g2 → va_P D jCl (jW d a n2 g2) H1 → va_S (jAa a s.heap.size) s.heap H1 locs1 → lv_has ls1 7 [(4, .int (nI (7 * t))), (0, .ref b), (1, .ref (a 0)), (2, .ref (a 33)), (3, .ref (a 51))] → W p l e room_1 s m args below meth c H1 locs1 (cells + 1) (slots + 6) Q (F0 m 1125 ls1 [])) : W p l e room_1 s m args below meth c H locs cells slots Q (F0 m 1057 ls []) := by
  obtain ⟨k, w, m1, h1, m2, h2, rM, hW, hrM, hM, hk4, hth, hout, hI⟩ := hT (sc ((7 * t) + 1)) (sc ((7 * t) + 2)) (hsc _) (hsc _)
  refine lv_aload_n X.1 X.2.1 jd_L_1057 rfl (lv_at hl 2 rfl) ?_
  refine lv_aload_n X.1 X.2.1 jd_L_1058 rfl (lv_at hl 1 rfl) ?_
  refine lv_iload X.1 X.2.1 jd_L_1059 (lv_at hl 0 rfl) ?_
  refine lv_iconst (v := nI 1) X.1 X.2.1 jd_L_1061 (by decide) ?_
  refine kn_iadd X.1 X.2.1 jd_L_1062 ?_
  refine j_sld X hX hbl hbA hS ((7 * t) + 1) (by omega) hL jd_L_1063 ?_
  refine lv_aload_n X.1 X.2.1 jd_L_1064 rfl (lv_at hl 1 rfl) ?_
  refine lv_iload X.1 X.2.1 jd_L_1065 (lv_at hl 0 rfl) ?_
  refine lv_iconst (v := nI 2) X.1 X.2.1 jd_L_1067 (by decide) ?_
  refine kn_iadd X.1 X.2.1 jd_L_1068 ?_
  refine j_sld X hX hbl hbA hS ((7 * t) + 2) (by omega) hL jd_L_1069 ?_
  refine lv_aload_n X.1 X.2.1 jd_L_1070 rfl (lv_at hl 4 rfl) ?_
  have hJ : jS (fun _ => False) s H := (hJ0.kept hS.2.1).narrow (fun _ h => absurd h id)
  refine j_runw (j_mkW X hP hJ hNc hW jm_596 jm_595 jm_0 jm_594 (show jOk jy_L_key 4 by unfold jOk; decide +kernel) (by decide) ⟨rfl, rfl⟩ hl.1 rfl (Nat.le_of_ble_eq_true rfl) hcs jd_L_1071) hS (fun v9 m9 h9 H locs e9 hP hS => ?_)
  obtain ⟨rfl, rfl, rfl⟩ := e9
  refine W.eq (g2 := F0 m 1074 ls [.int (nI k)]) rfl ?_
  refine lv_istore X.1 X.2.1 jd_L_1074 hl (by decide) rfl (fun ls hl => ?_)
  have hl : lv_has ls 7 [(5, .int (nI k)), (4, .int (nI (7 * t))), (0, .ref b), (1, .ref (a 0)), (2, .ref (a 33)), (3, .ref (a 51))] := hl
  refine lv_aload_n X.1 X.2.1 jd_L_1076 rfl (lv_at hl 4 rfl) ?_
  refine lv_aload_n X.1 X.2.1 jd_L_1077 rfl (lv_at hl 2 rfl) ?_
  refine lv_iload X.1 X.2.1 jd_L_1078 (lv_at hl 1 rfl) ?_
  refine lv_iconst (v := nI 1) X.1 X.2.1 jd_L_1080 (by decide) ?_
  refine kn_iadd X.1 X.2.1 jd_L_1081 ?_
  refine j_sld X hX hbl hbA hS ((7 * t) + 1) (by omega) hL jd_L_1082 ?_
  refine lv_aload_n X.1 X.2.1 jd_L_1083 rfl (lv_at hl 2 rfl) ?_
  refine lv_iload X.1 X.2.1 jd_L_1084 (lv_at hl 1 rfl) ?_
  refine lv_iconst (v := nI 2) X.1 X.2.1 jd_L_1086 (by decide) ?_
  refine kn_iadd X.1 X.2.1 jd_L_1087 ?_
  refine j_sld X hX hbl hbA hS ((7 * t) + 2) (by omega) hL jd_L_1088 ?_
  refine j_rune (j_mkV X hP (hM _) jU_bs (j_pe X hP) jm_851 jm_849 jm_850 jm_6 jm_848 (i := 33) (by decide) rfl rfl (show jOk jy_M_key 2 by unfold jOk; decide +kernel) ⟨by have := hrM.1; show _ + 1 ≤ 10; omega, by have := hrM.2.1; show 8 + (3 + 11) + _ ≤ 384; omega⟩ ⟨hrM.2.2.1, hrM.2.2.2⟩ hl.1 rfl (Nat.le_of_ble_eq_true rfl) ⟨by show _ ≤ 601024; omega, by show _ ≤ 7293034; omega⟩ jd_L_1089) hS (fun v8 m8 h8 H locs e8 hP hS => ?_)
  obtain ⟨rfl, rfl, rfl⟩ := e8
  refine W.eq (g2 := F0 m 1092 ls [.int (nI w)]) rfl ?_
  refine lv_istore X.1 X.2.1 jd_L_1092 hl (by decide) rfl (fun ls hl => ?_)
  have hl : lv_has ls 7 [(6, .int (nI w)), (5, .int (nI k)), (4, .int (nI (7 * t))), (0, .ref b), (1, .ref (a 0)), (2, .ref (a 33)), (3, .ref (a 51))] := hl
  refine lv_aload_n X.1 X.2.1 jd_L_1094 rfl (lv_at hl 5 rfl) ?_
  refine j_run (j_mkV X hP (c_M_thrown l d D a m2 h2) jU_b (j_pp X hP) jm_704 jm_702 jm_703 jm_6 jm_701 (i := 33) (by decide) rfl rfl (show jOk jy_M_thrown 0 by unfold jOk; decide +kernel) (by decide) ⟨rfl, rfl⟩ hl.1 rfl (Nat.le_of_ble_eq_true rfl) ⟨by show _ ≤ 601024; omega, by show _ ≤ 7293034; omega⟩ jd_L_1095) ?_
  refine W.eq (g2 := F0 m 1098 ls [.int (nI (m2 33 0))]) rfl ?_
  refine lv_iload X.1 X.2.1 jd_L_1098 (lv_at hl 1 rfl) ?_
  refine kn_ceq X.1 X.2.1 jd_L_1100 (tgt := 1105) (by decide) (by rw [hth]; omega) (fun _ => ?_) (fun q => absurd hth q)
  refine lv_iload X.1 X.2.1 jd_L_1105 (lv_at hl 1 rfl) ?_
  refine kn_ne0 X.1 X.2.1 jd_L_1107 (tgt := 1122) (by decide) (by omega) (fun hk0 => ?_) (fun hk0 => ?_)
  · skip
    refine lv_goto X.1 X.2.1 jd_L_1122 (tgt := 1125) (by decide) ?_
    exact kk _ _ _ _ _ hI hP hS (lv_sub hl [2, 3, 4, 5, 6] rfl)
  · skip
    refine lv_aload_n X.1 X.2.1 jd_L_1110 rfl (lv_at hl 6 rfl) ?_
    refine lv_iconst (v := nI 0) X.1 X.2.1 jd_L_1111 (by decide) ?_
    refine j_lld X hP jd_L_1112 ?_
    refine lv_iload X.1 X.2.1 jd_L_1113 (lv_at hl 0 rfl) ?_
    refine lv_i2l (v := lN w) X.1 X.2.1 jd_L_1115 (nI_l (hout hk0).2) ?_
    refine kn_leq X.1 X.2.1 jd_L_1116 jd_L_1117 (tgt := 1122) (by decide) (hout hk0).1 ?_
    refine lv_goto X.1 X.2.1 jd_L_1122 (tgt := 1125) (by decide) ?_
    exact kk _ _ _ _ _ hI hP hS (lv_sub hl [2, 3, 4, 5, 6] rfl)
