/-! the law's loop and its start, over an invariant and the turns. Printed by wip/gen/p49.py -/
def R_law : String := "KeyDistillerLaw"
def lw_P (b : Addr) (xs : List Int32) (args : Array Value) (s : State) : Prop := args = #[.ref b] ∧ s.IntsAt b xs ∧ xs.length ≤ 3584 ∧ (Jvm.Cond.and given_1 narrow_1).before args s = true
def lw_Q (_ : Array Value) (s : State) (o : Outcome) (t : State) : Prop := o = .returned (some (.int 1)) ∧ Framed s o t [] 601024 7293034
def lw_Z (below : List Frame) (a : Array Value) (s : State) : State → Prop := fun t => ∃ o, t.status = .running ∧ Ended t below o ∧ lw_Q a s o t
/-- the law's own end, with 1 on the stack, nothing written that was there before, its room as the claim has it -/
theorem lw_ret {p : Program} {l : Launch} {e : Env} {s : State} {m : MethodId} {below : List Frame} {meth : Method} {c : Code} {b : Nat} (hx : p.tables.exec = Jvm.exec) (hb : c.code = code) (hr : meth.sig.returnType = ret) (hlocks : meth.locks = false) {pc : Nat} {H : Heap} {ls : Array Slot} (hdg : decode code pc = .ok (.ireturn, 1)) : W p l e room_1 s m #[Value.ref b] below meth c H [] 601024 7293034 (lw_Z below #[Value.ref b] s) (F0 m pc ls [.int 1]) := by
  intro T hT X
  obtain ⟨fs, hret, hrun, hended, hW, hframe⟩ := X.leave (v := some (.int 1)) (hlocks := hlocks) (fun h => by rw [hr] at h; cases h)
  have hmeth' : T.vm.method? m = some meth := X.method'
  refine ⟨T.setFrames fs, ?_, .returned (some (.int 1)), hrun, hended, rfl, ⟨_, rfl⟩, hW, hframe⟩
  jvm_step X.here [X.here.top, hx, hb, hdg, hmeth', hr, ret, narrow_b1]
  (try refine ⟨rfl, ?_⟩); (try refine ⟨rfl, ?_⟩)
  first | (intro acts; rw [hret _ acts rfl rfl rfl]) | rw [hret _ _ rfl rfl rfl]
  exact Steps.refl _
/-- what holds at the law's entry: the machine, the code, the tables' words (any of lw_tbl by 'hts w (by decide +kernel)'), the script of L ints xs at the cell b, what the Statement gives of the start (any of its parts by flat_of_before) -/
def lw_At (p : Program) (s : State) (m : MethodId) (meth : Method) (c : Code) (b L : Nat) (xs : Nat → Int32) : Prop :=
  p.tables.exec = Jvm.exec ∧ c.code = code ∧ meth.sig.returnType = ret ∧ c.maxLocals = 7 ∧ s.vm.findClass R_law = some m.cls ∧ (∀ w ∈ lw_tbl, w.before #[Value.ref b] s = true) ∧ va_X b L xs s s.heap ∧ b < s.heap.size ∧ meth.locks = false ∧ (Jvm.Cond.and given_1 narrow_1).before #[Value.ref b] s = true
theorem jN_tb : ∀ w ∈ jN, w ∈ tables_1 := by decide +kernel
theorem jB_tb : ∀ w ∈ jB, w ∈ tables_1 := by decide +kernel
theorem jStr_tb : ∀ q ∈ jStr, Cond.stringRef "KeyDistiller" q.1 q.2 ∈ tables_1 := by decide +kernel
theorem jAO_tb : Cond.arrayOver (.array .int) ∈ tables_1 := by decide +kernel
theorem jNc_na : ∀ q ∈ jNcL, Cond.not (.castable q.1 q.2) ∈ flatC (Jvm.Cond.and given_1 narrow_1) := by decide +kernel
theorem jU_na : Cond.isRef (.static Bundle.tN "UNASSIGNED_STACK" Bundle.steD) ∈ flatC (Jvm.Cond.and given_1 narrow_1) := by decide +kernel
theorem jV_na : Cond.isRef (.static Bundle.tN "SUPPRESSED_SENTINEL" Bundle.listD) ∈ flatC (Jvm.Cond.and given_1 narrow_1) := by decide +kernel
theorem jU_tb : Cond.laysStatic Bundle.tN "UNASSIGNED_STACK" Bundle.steD ∈ tables_1 ∧ Cond.laysStatic Bundle.tN "SUPPRESSED_SENTINEL" Bundle.listD ∈ tables_1 ∧ Cond.initialized Bundle.tN ∈ tables_1 := by decide +kernel
theorem arrk {args : Array Value} {s : State} {ty : FieldType} (h : (Cond.arrayClass ty).before args s = true) : ∃ cA : ClassId, ArrOfT s cA ty ∧ s.vm.findClass ("[" ++ ty.toString) = some cA := by
  obtain ⟨cA, kA, comp, h1, h2, h3⟩ := Cond.arrayClass_spec h
  exact ⟨cA, fun n z => ⟨fun k h => (by cases h), kA, h2, comp, h3⟩, h1⟩
theorem arrq {s : State} (h : va_AOA .int s) : ∃ cA : ClassId, ArrOfT s cA (.array .int) ∧ s.vm.findClass ("[" ++ (FieldType.array .int).toString) = some cA := by
  obtain ⟨comp, cA, kA, -, -, h2, h3, h1⟩ := arrayOverA_spec h
  exact ⟨cA, fun n z => ⟨fun k h => (by cases h), kA, h2, comp, h3⟩, h1⟩
/-- what the entry gives -/
theorem law_facts {p : Program} {s : State} {m : MethodId} {meth : Method} {c : Code} {b L : Nat} {xs : Nat → Int32} (C0 : lw_At p s m meth c b L xs) : ∃ (d : Nat → Nat) (D : va_G), jX p s m #[Value.ref b] meth c code 7 ret "KeyDistillerLaw" d D ∧ va_AOA .int s ∧ jNc s ∧ ∀ A : Nat → Prop, (∀ q : Nat, q < s.heap.size → ¬ A q) → jS A s s.heap := by
  obtain ⟨hx, hb, hr, hml, hown, htl, hX, hbl, hlk, hgv⟩ := C0
  have htb : ∀ w ∈ tables_1, w.before #[Value.ref b] s = true := fun w h => htl w (List.mem_append_right _ h)
  have hts : ∀ w ∈ jT, w.before #[Value.ref b] s = true := fun w h => htl w (List.mem_filter.mp h).1
  have hfl := flat_of_before _ hgv
  have hAO : va_AOA .int s := htb _ jAO_tb
  obtain ⟨c0, i0, k0⟩ := u_known hts ju_S (hts _ jm_25)
  obtain ⟨c1, i1, k1⟩ := u_known hts ju_G (hts _ jm_59)
  obtain ⟨c2, i2, k2⟩ := u_known hts ju_E (hts _ jm_75)
  obtain ⟨c3, i3, k3⟩ := u_known hts ju_D (hts _ jm_69)
  obtain ⟨c4, i4, k4⟩ := u_known hts ju_K (hts _ jm_17)
  obtain ⟨c5, i5, k5⟩ := u_known hts ju_M (hts _ jm_602)
  obtain ⟨a0, r0, f0⟩ := arrk (hts _ jm_57)
  obtain ⟨a1, r1, f1⟩ := arrk (hts _ jm_56)
  obtain ⟨a2, r2, f2⟩ := arrk (hts _ jm_853)
  obtain ⟨a3, r3, f3⟩ := arrq hAO
  refine ⟨jL [a0, a1, a2, a3], (jL [c0, c1, c2, c3, c4, c5], fun i => [i0, i1, i2, i3, i4, i5].getD i i0), ⟨hx, hb, hml, hr, hlk, hown, hts, ⟨?_, ?_⟩, ?_⟩, hAO, ?_, ?_⟩
  · intro k q hk
    have hl : k < 6 := (List.getElem?_eq_some_iff.mp hk).1
    rcases (show k = 0 ∨ k = 1 ∨ k = 2 ∨ k = 3 ∨ k = 4 ∨ k = 5 by omega) with rfl | rfl | rfl | rfl | rfl | rfl
    · cases hk; exact k0
    · cases hk; exact k1
    · cases hk; exact k2
    · cases hk; exact k3
    · cases hk; exact k4
    · cases hk; exact k5
  · intro k q hk
    have hl : k < 4 := (List.getElem?_eq_some_iff.mp hk).1
    rcases (show k = 0 ∨ k = 1 ∨ k = 2 ∨ k = 3 by omega) with rfl | rfl | rfl | rfl
    · cases hk; exact ⟨r0, f0⟩
    · cases hk; exact ⟨r1, f1⟩
    · cases hk; exact ⟨r2, f2⟩
    · cases hk; exact ⟨r3, f3⟩
  · intro w hw
    exact va_Nw.of (jN_on w hw) (htb w (jN_tb w hw))
  · intro q hq
    exact va_Nc.of (hfl _ (jNc_na q hq))
  · intro A hA
    refine ⟨fun w hw => va_Nw.of (jB_on w hw) (htb w (jB_tb w hw)), fun q hq => ?_, vx_Zqof (htb _ jU_tb.1) (htb _ jU_tb.2.2) (hfl _ jU_na) hA, vx_Zqof (htb _ jU_tb.2.1) (htb _ jU_tb.2.2) (hfl _ jV_na) hA⟩
    have h1 := htb _ (jStr_tb q hq)
    have hcur : ∃ cur, s.vm.findClass "KeyDistiller" = some cur := ⟨_, k4.2.1⟩
    obtain ⟨cur, hcur⟩ := hcur
    obtain ⟨-, -, -, sa, -, -, -, -, -, h6⟩ := Cond.stringRef_spec hcur h1
    exact ⟨sa, vk_R.of h1 h6⟩
set_option maxHeartbeats 4000000 in
theorem law_loop {p : Program} {l : Launch} {e : Env} {s : State} {m : MethodId} {args : Array Value} {below : List Frame} {meth : Method} {c : Code} {Q : State → Prop} {d : Nat → Nat} {D : va_G} {a : Nat → Nat} {b L : Nat} {sc : Nat → Nat} {rt : Option FieldType} {I : Nat → (Nat → Nat → Nat) → (Nat → Nat) → Prop} (X : jX p s m args meth c code 7 rt "KeyDistillerLaw" d D) (hJ0 : jS (jAa a s.heap.size) s s.heap) (hNc : jNc s) (hsc : ∀ j, sc j < 4294967296) (hX : va_X b L (fun j => nI (sc j)) s s.heap) (hbl : b < s.heap.size) (hbA : ¬ jAa a s.heap.size b) (hL : L ≤ 3584)
    (hmono : ∀ t n g, I t n g → I (t + 1) n g) (T0 : ∀ (t : Nat) (n : Nat → Nat → Nat) (g : Nat → Nat), t < 512 → I t n g → ∀ (p0 : Nat) (p1 : Nat) (p2 : Nat) (p3 : Nat) (p4 : Nat) (p5 : Nat), p0 < 4294967296 → p1 < 4294967296 → p2 < 4294967296 → p3 < 4294967296 → p4 < 4294967296 → p5 < 4294967296 → TB (I (t + 1)) l d D a n g jy_L_record jb_L_record 9 [(0, 18, 21, 13), (0, 18, 25, 15)] [.ref (a 0), .int (nI p0), .int (nI p1), .int (nI p2), .int (nI p3), .int (nI p4), .int (nI p5), .ref (a 51)] jy_M_record jb_M_record 10 [.ref (a 33), .int (nI p0), .int (nI p1), .int (nI p2), .int (nI p3), .int (nI p4), .int (nI p5)]) (T1 : ∀ (t : Nat) (n : Nat → Nat → Nat) (g : Nat → Nat), t < 512 → I t n g → TB (I (t + 1)) l d D a n g jy_L_sift jb_L_sift 3 [(0, 8, 11, 15)] [.ref (a 0), .ref (a 51)] jy_M_sift jb_M_sift 2 [.ref (a 33)]) (T2 : ∀ (t : Nat) (n : Nat → Nat → Nat) (g : Nat → Nat), t < 512 → I t n g → TP (I (t + 1)) l d D a n g (some .int) jy_K_length jb_K_length 1 [.ref (a 0)] jy_M_length jb_M_length 1 [.ref (a 33)]) (T3 : ∀ (t : Nat) (n : Nat → Nat → Nat) (g : Nat → Nat), t < 512 → I t n g → ∀ (p0 : Nat) (p1 : Nat), p0 < 18446744073709551616 → p1 < 4294967296 → TB (I (t + 1)) l d D a n g jy_L_sample jb_L_sample 6 [(0, 11, 14, 15), (0, 11, 18, 13)] [.ref (a 0), .long (lN p0), .int (nI p1), .ref (a 51)] jy_M_sample jb_M_sample 7 [.ref (a 33), .long (lN p0), .int (nI p1)]) (T4 : ∀ (t : Nat) (n : Nat → Nat → Nat) (g : Nat → Nat), t < 512 → I t n g → ∀ (p0 : Nat), p0 < 4294967296 → TP (I (t + 1)) l d D a n g (some .int) jy_K_sampled jb_K_sampled 2 [.ref (a 0), .int (nI p0)] jy_M_sampled jb_M_sampled 2 [.ref (a 33), .int (nI p0)]) (T5 : ∀ (t : Nat) (n : Nat → Nat → Nat) (g : Nat → Nat), t < 512 → I t n g → ∀ (p0 : Nat) (p1 : Nat), p0 < 4294967296 → p1 < 18446744073709551616 → TB (I (t + 1)) l d D a n g jy_L_start jb_L_start 6 [(0, 11, 14, 15), (0, 11, 18, 13)] [.ref (a 0), .int (nI p0), .long (lN p1), .ref (a 51)] jy_M_start jb_M_start 6 [.ref (a 33), .int (nI p0), .long (lN p1)]) (T6 : ∀ (t : Nat) (n : Nat → Nat → Nat) (g : Nat → Nat), t < 512 → I t n g → ∀ (p0 : Nat) (p1 : Nat), p0 < 4294967296 → p1 < 4294967296 → TB (I (t + 1)) l d D a n g jy_L_letter jb_L_letter 5 [(0, 10, 13, 13), (0, 10, 17, 33), (0, 10, 21, 15)] [.ref (a 0), .int (nI p0), .int (nI p1), .ref (a 51)] jy_M_letter jb_M_letter 7 [.ref (a 33), .int (nI p0), .int (nI p1)]) (T7 : ∀ (t : Nat) (n : Nat → Nat → Nat) (g : Nat → Nat), t < 512 → I t n g → ∀ (p0 : Nat) (p1 : Nat), p0 < 4294967296 → p1 < 4294967296 → TP (I (t + 1)) l d D a n g (some .int) jy_K_told jb_K_told 3 [.ref (a 0), .int (nI p0), .int (nI p1)] jy_M_told jb_M_told 4 [.ref (a 33), .int (nI p0), .int (nI p1)]) (T8 : ∀ (t : Nat) (n : Nat → Nat → Nat) (g : Nat → Nat), t < 512 → I t n g → TB (I (t + 1)) l d D a n g jy_L_tick jb_L_tick 3 [(0, 8, 11, 15)] [.ref (a 0), .ref (a 51)] jy_M_tick jb_M_tick 1 [.ref (a 33)]) (T9 : ∀ (t : Nat) (n : Nat → Nat → Nat) (g : Nat → Nat), t < 512 → I t n g → TP (I (t + 1)) l d D a n g (some .boolean) jy_K_done jb_K_done 1 [.ref (a 0)] jy_M_done jb_M_done 1 [.ref (a 33)]) (T10 : ∀ (t : Nat) (n : Nat → Nat → Nat) (g : Nat → Nat), t < 512 → I t n g → TP (I (t + 1)) l d D a n g (some .int) jy_K_pass jb_K_pass 1 [.ref (a 0)] jy_M_pass jb_M_pass 1 [.ref (a 33)]) (T11 : ∀ (t : Nat) (n : Nat → Nat → Nat) (g : Nat → Nat), t < 512 → I t n g → TP (I (t + 1)) l d D a n g (some .int) jy_K_disclosed jb_K_disclosed 1 [.ref (a 0)] jy_M_disclosed jb_M_disclosed 1 [.ref (a 33)]) (T12 : ∀ (t : Nat) (n : Nat → Nat → Nat) (g : Nat → Nat), t < 512 → I t n g → ∀ (p0 : Nat), p0 < 4294967296 → TP (I (t + 1)) l d D a n g (some .int) jy_K_answered jb_K_answered 2 [.ref (a 0), .int (nI p0)] jy_M_answered jb_M_answered 2 [.ref (a 33), .int (nI p0)]) (T13 : ∀ (t : Nat) (n : Nat → Nat → Nat) (g : Nat → Nat), t < 512 → I t n g → ∀ (p0 : Nat) (p1 : Nat), p0 < 4294967296 → p1 < 4294967296 → TB (I (t + 1)) l d D a n g jy_L_bit jb_L_bit 5 [(0, 10, 13, 15), (0, 10, 17, 33)] [.ref (a 0), .int (nI p0), .int (nI p1), .ref (a 51)] jy_M_bit jb_M_bit 3 [.ref (a 33), .int (nI p0), .int (nI p1)]) (T14 : ∀ (t : Nat) (n : Nat → Nat → Nat) (g : Nat → Nat), t < 512 → I t n g → ∀ (p0 : Nat) (p1 : Nat), p0 < 4294967296 → p1 < 4294967296 → TB (I (t + 1)) l d D a n g jy_L_item jb_L_item 5 [(0, 10, 13, 15), (0, 10, 17, 33)] [.ref (a 0), .int (nI p0), .int (nI p1), .ref (a 51)] jy_M_item jb_M_item 3 [.ref (a 33), .int (nI p0), .int (nI p1)]) (T15 : ∀ (t : Nat) (n : Nat → Nat → Nat) (g : Nat → Nat), t < 512 → I t n g → ∀ (p0 : Nat) (p1 : Nat), p0 < 4294967296 → p1 < 4294967296 → TB (I (t + 1)) l d D a n g jy_L_tag jb_L_tag 5 [(0, 10, 13, 15), (0, 10, 17, 13)] [.ref (a 0), .int (nI p0), .int (nI p1), .ref (a 51)] jy_M_tag jb_M_tag 3 [.ref (a 33), .int (nI p0), .int (nI p1)]) (T16 : ∀ (t : Nat) (n : Nat → Nat → Nat) (g : Nat → Nat), t < 512 → I t n g → ∀ (p0 : Nat) (p1 : Nat) (p2 : Nat), p0 < 18446744073709551616 → p1 < 4294967296 → p2 < 4294967296 → TB (I (t + 1)) l d D a n g jy_L_shorten jb_L_shorten 7 [(0, 13, 16, 15), (0, 13, 20, 13), (0, 13, 24, 51)] [.ref (a 0), .long (lN p0), .int (nI p1), .int (nI p2), .ref (a 51)] jy_M_shorten jb_M_shorten 10 [.ref (a 33), .long (lN p0), .int (nI p1), .int (nI p2)]) (T17 : ∀ (t : Nat) (n : Nat → Nat → Nat) (g : Nat → Nat), t < 512 → I t n g → ∀ (p0 : Nat) (p1 : Nat), p0 < 4294967296 → p1 < 4294967296 → TB (I (t + 1)) l d D a n g jy_L_key jb_L_key 5 [(0, 10, 13, 33)] [.ref (a 0), .int (nI p0), .int (nI p1), .ref (a 51)] jy_M_key jb_M_key 3 [.ref (a 33), .int (nI p0), .int (nI p1)])
    (hend : ∀ (H : Heap) (locs : List Loc) (cells slots : Nat) (ls : Array Slot), cells ≤ 601024 → slots ≤ 7293034 → va_S (jAa a s.heap.size) s.heap H locs → W p l e room_1 s m args below meth c H locs cells slots Q (F0 m 1131 ls [])) :
    ∀ (r t : Nat) (n : Nat → Nat → Nat) (g : Nat → Nat) (H : Heap) (locs : List Loc) (ls : Array Slot), t + r = 513 → I t n g → va_P D jCl (jW d a n g) H → va_S (jAa a s.heap.size) s.heap H locs → lv_has ls 7 [(4, .int (nI (7 * t))), (0, .ref b), (1, .ref (a 0)), (2, .ref (a 33)), (3, .ref (a 51))] → W p l e room_1 s m args below meth c H locs (52 + t) (8739 + 6 * t) Q (F0 m 23 ls []) := by
  intro r
  induction r with
  | zero =>
    intro t n g H locs ls htr hI hP hS hl
    refine lv_iload X.1 X.2.1 jd_L_23 (lv_at hl 0 rfl) ?_
    refine lv_aload_n X.1 X.2.1 jd_L_25 rfl (lv_at hl 1 rfl) ?_
    refine va_slen X.1 X.2.1 hX hbl hbA hS jd_L_26 ?_
    refine lv_bipush (v := nI 7) X.1 X.2.1 jd_L_27 (by decide) ?_
    refine lv_isub X.1 X.2.1 jd_L_29 ?_
    refine lv_icmp_gt X.1 X.2.1 jd_L_30 (tgt := 1131) (by decide) (fun h => hend H locs _ _ ls (by omega) (by omega) hS) (fun h => absurd ((kn_lgt hL (by omega)).mpr (by omega)) h)
  | succ r ih =>
    intro t n g H locs ls htr hI hP hS hl
    refine lv_iload X.1 X.2.1 jd_L_23 (lv_at hl 0 rfl) ?_
    refine lv_aload_n X.1 X.2.1 jd_L_25 rfl (lv_at hl 1 rfl) ?_
    refine va_slen X.1 X.2.1 hX hbl hbA hS jd_L_26 ?_
    refine lv_bipush (v := nI 7) X.1 X.2.1 jd_L_27 (by decide) ?_
    refine lv_isub X.1 X.2.1 jd_L_29 ?_
    refine lv_icmp_gt X.1 X.2.1 jd_L_30 (tgt := 1131) (by decide) (fun h => hend H locs _ _ ls (by omega) (by omega) hS) (fun h => ?_)
    have hlt : 7 * t + 7 ≤ L := Nat.le_of_not_lt (fun q => h ((kn_lgt hL (by omega)).mpr q))
    have ht : t < 512 := by omega
    have kk : ∀ (n2 : Nat → Nat → Nat) (g2 : Nat → Nat) (H1 : Heap) (locs1 : List Loc) (ls1 : Array Slot), I (t + 1) n2 g2 → va_P D jCl (jW d a n2 g2) H1 → va_S (jAa a s.heap.size) s.heap H1 locs1 → lv_has ls1 7 [(4, .int (nI (7 * t))), (0, .ref b), (1, .ref (a 0)), (2, .ref (a 33)), (3, .ref (a 51))] → W p l e room_1 s m args below meth c H1 locs1 (52 + t + 1) (8739 + 6 * t + 6) Q (F0 m 1125 ls1 []) := by
      intro n2 g2 H1 locs1 ls1 hI2 hP2 hS2 hl2
      refine lv_iinc (k := 0) (v := nI (7 * t + 7)) X.1 X.2.1 jd_L_1125 hl2 rfl (kn_inc7 _) (by decide) rfl (fun ls hl => ?_)
      refine lv_goto X.1 X.2.1 jd_L_1128 (tgt := 23) (by decide) ?_
      have hl : lv_has ls 7 [(4, .int (nI (7 * (t + 1)))), (0, .ref b), (1, .ref (a 0)), (2, .ref (a 33)), (3, .ref (a 51))] := hl
      refine W.widen (k := 52 + (t + 1)) (n := 8739 + 6 * (t + 1)) (by omega) (by omega) ?_
      exact ih (t + 1) n2 g2 H1 locs1 ls (by omega) hI2 hP2 hS2 hl
    refine lv_aload_n X.1 X.2.1 jd_L_33 rfl (lv_at hl 1 rfl) ?_
    refine lv_iload X.1 X.2.1 jd_L_34 (lv_at hl 0 rfl) ?_
    refine j_sld X hX hbl hbA hS (7 * t) (by omega) hL jd_L_36 ?_
    refine lv_bipush (v := nI 31) X.1 X.2.1 jd_L_37 (by decide) ?_
    refine kn_iand X.1 X.2.1 jd_L_39 ?_
    have hv : sc (7 * t) &&& 31 ≤ 31 := Nat.and_le_right
    generalize sc (7 * t) &&& 31 = v at hv ⊢
    rcases (show v = 0 ∨ v = 1 ∨ v = 2 ∨ v = 3 ∨ v = 4 ∨ v = 5 ∨ v = 6 ∨ v = 7 ∨ v = 8 ∨ v = 9 ∨ v = 10 ∨ v = 11 ∨ v = 12 ∨ v = 13 ∨ v = 14 ∨ v = 15 ∨ v = 16 ∨ v = 17 ∨ 18 ≤ v by omega) with rfl | rfl | rfl | rfl | rfl | rfl | rfl | rfl | rfl | rfl | rfl | rfl | rfl | rfl | rfl | rfl | rfl | rfl | hv2
    · refine lv_tableIn X.1 X.2.1 jd_L_40 (by decide) (by decide) (off := 88) (by decide) (tgt := 128) (by decide) ?_
      exact law_0 X hJ0 hNc hsc hX hbl hbA hL hlt (by omega) hP hS hl (T0 t n g ht hI) kk
    · refine lv_tableIn X.1 X.2.1 jd_L_40 (by decide) (by decide) (off := 206) (by decide) (tgt := 246) (by decide) ?_
      exact law_1 X hJ0 hNc hsc hX hbl hbA hL hlt (by omega) hP hS hl (T1 t n g ht hI) kk
    · refine lv_tableIn X.1 X.2.1 jd_L_40 (by decide) (by decide) (off := 250) (by decide) (tgt := 290) (by decide) ?_
      exact law_2 X hJ0 hNc hsc hX hbl hbA hL hlt (by omega) hP hS hl (T2 t n g ht hI) kk
    · refine lv_tableIn X.1 X.2.1 jd_L_40 (by decide) (by decide) (off := 263) (by decide) (tgt := 303) (by decide) ?_
      exact law_3 X hJ0 hNc hsc hX hbl hbA hL hlt (by omega) hP hS hl (T3 t n g ht hI) kk
    · refine lv_tableIn X.1 X.2.1 jd_L_40 (by decide) (by decide) (off := 363) (by decide) (tgt := 403) (by decide) ?_
      exact law_4 X hJ0 hNc hsc hX hbl hbA hL hlt (by omega) hP hS hl (T4 t n g ht hI) kk
    · refine lv_tableIn X.1 X.2.1 jd_L_40 (by decide) (by decide) (off := 388) (by decide) (tgt := 428) (by decide) ?_
      exact law_5 X hJ0 hNc hsc hX hbl hbA hL hlt (by omega) hP hS hl (T5 t n g ht hI) kk
    · refine lv_tableIn X.1 X.2.1 jd_L_40 (by decide) (by decide) (off := 488) (by decide) (tgt := 528) (by decide) ?_
      exact law_6 X hJ0 hNc hsc hX hbl hbA hL hlt (by omega) hP hS hl (T6 t n g ht hI) kk
    · refine lv_tableIn X.1 X.2.1 jd_L_40 (by decide) (by decide) (off := 556) (by decide) (tgt := 596) (by decide) ?_
      exact law_7 X hJ0 hNc hsc hX hbl hbA hL hlt (by omega) hP hS hl (T7 t n g ht hI) kk
    · refine lv_tableIn X.1 X.2.1 jd_L_40 (by decide) (by decide) (off := 593) (by decide) (tgt := 633) (by decide) ?_
      exact law_8 X hJ0 hNc hsc hX hbl hbA hL hlt (by omega) hP hS hl (T8 t n g ht hI) kk
    · refine lv_tableIn X.1 X.2.1 jd_L_40 (by decide) (by decide) (off := 637) (by decide) (tgt := 677) (by decide) ?_
      exact law_9 X hJ0 hNc hsc hX hbl hbA hL hlt (by omega) hP hS hl (T9 t n g ht hI) kk
    · refine lv_tableIn X.1 X.2.1 jd_L_40 (by decide) (by decide) (off := 650) (by decide) (tgt := 690) (by decide) ?_
      exact law_10 X hJ0 hNc hsc hX hbl hbA hL hlt (by omega) hP hS hl (T10 t n g ht hI) kk
    · refine lv_tableIn X.1 X.2.1 jd_L_40 (by decide) (by decide) (off := 663) (by decide) (tgt := 703) (by decide) ?_
      exact law_11 X hJ0 hNc hsc hX hbl hbA hL hlt (by omega) hP hS hl (T11 t n g ht hI) kk
    · refine lv_tableIn X.1 X.2.1 jd_L_40 (by decide) (by decide) (off := 676) (by decide) (tgt := 716) (by decide) ?_
      exact law_12 X hJ0 hNc hsc hX hbl hbA hL hlt (by omega) hP hS hl (T12 t n g ht hI) kk
    · refine lv_tableIn X.1 X.2.1 jd_L_40 (by decide) (by decide) (off := 701) (by decide) (tgt := 741) (by decide) ?_
      exact law_13 X hJ0 hNc hsc hX hbl hbA hL hlt (by omega) hP hS hl (T13 t n g ht hI) kk
    · refine lv_tableIn X.1 X.2.1 jd_L_40 (by decide) (by decide) (off := 769) (by decide) (tgt := 809) (by decide) ?_
      exact law_14 X hJ0 hNc hsc hX hbl hbA hL hlt (by omega) hP hS hl (T14 t n g ht hI) kk
    · refine lv_tableIn X.1 X.2.1 jd_L_40 (by decide) (by decide) (off := 837) (by decide) (tgt := 877) (by decide) ?_
      exact law_15 X hJ0 hNc hsc hX hbl hbA hL hlt (by omega) hP hS hl (T15 t n g ht hI) kk
    · refine lv_tableIn X.1 X.2.1 jd_L_40 (by decide) (by decide) (off := 905) (by decide) (tgt := 945) (by decide) ?_
      exact law_16 X hJ0 hNc hsc hX hbl hbA hL hlt (by omega) hP hS hl (T16 t n g ht hI) kk
    · refine lv_tableIn X.1 X.2.1 jd_L_40 (by decide) (by decide) (off := 1017) (by decide) (tgt := 1057) (by decide) ?_
      exact law_17 X hJ0 hNc hsc hX hbl hbA hL hlt (by omega) hP hS hl (T17 t n g ht hI) kk
    · refine lv_tableOut X.1 X.2.1 jd_L_40 (by rw [kn_toInt (by omega)]; split <;> omega) (tgt := 1125) (by decide) ?_
      refine W.widen (k := 52 + t + 1) (n := 8739 + 6 * t + 6) (by omega) (by omega) ?_
      exact kk n g H locs ls (hmono t n g hI) hP hS hl
