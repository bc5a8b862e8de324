/-! the throwing roads of KeyDistiller's methods. Over the vx_ rows of part 02 -/
def jB : List Cond := [Cond.declares ⟨"java/lang/RuntimeException", "<init>", "(Ljava/lang/String;)V"⟩, Cond.declares ⟨"java/lang/Exception", "<init>", "(Ljava/lang/String;)V"⟩, Cond.declares ⟨"java/lang/Throwable", "<init>", "(Ljava/lang/String;)V"⟩, Cond.castable "java/lang/IllegalArgumentException" "java/lang/IllegalArgumentException", Cond.castable "java/lang/IllegalStateException" "java/lang/IllegalStateException", Cond.castable "java/lang/IndexOutOfBoundsException" "java/lang/IndexOutOfBoundsException", Cond.castable "java/lang/UnsupportedOperationException" "java/lang/UnsupportedOperationException"]
def jStr : List (Nat × String) := [(55, "no such station or pulses"), (74, "recorded or sifted already"), (84, "sifted already"), (98, "not between sifting and the start"), (100, "no such sample"), (121, "not sifted, or begun already"), (123, "no such size"), (142, "no such action"), (149, "no such letter"), (152, "too many letters"), (178, "not begun"), (195, "not sifted"), (197, "no such station or bit"), (199, "no such pass or item"), (204, "no such station or number"), (209, "the dialogue is not done"), (211, "no such number or margin"), (215, "the tags differ, or no bits are left")]
theorem jB_on : ∀ w ∈ jB, w.onTables = true := by decide +kernel
theorem va_Nw.warmC9 {x y : String} {s U : State} (hW : s.WarmedH U.vm) (hZ : va_Nw (.castable x y) s) : va_Nw (.castable x y) U := va_tabs rfl (rfl : (s.setVm U.vm).vm = U.vm) (by rw [Cond.castable_setVm hW.alike]; exact hZ)
theorem jB_warm {s U : State} (hW : s.WarmedH U.vm) (h : ∀ w ∈ jB, va_Nw w s) : ∀ w ∈ jB, va_Nw w U := by
  intro w hw
  have h2 := h w hw
  simp only [jB, List.mem_cons, List.mem_nil_iff, or_false] at hw
  rcases hw with rfl | rfl | rfl | rfl | rfl | rfl | rfl
  · exact va_Nw.warmD hW h2
  · exact va_Nw.warmD hW h2
  · exact va_Nw.warmD hW h2
  · exact va_Nw.warmC9 hW h2
  · exact va_Nw.warmC9 hW h2
  · exact va_Nw.warmC9 hW h2
  · exact va_Nw.warmC9 hW h2
/-- what a throwing road is told beside -/
def jS (A : Nat → Prop) (U : State) (H : Heap) : Prop := (∀ w ∈ jB, va_Nw w U) ∧ (∀ q ∈ jStr, ∃ sa : Nat, vk_R "KeyDistiller" q.1 q.2 sa U) ∧ vx_Zq Bundle.tN "UNASSIGNED_STACK" Bundle.steD A U H ∧ vx_Zq Bundle.tN "SUPPRESSED_SENTINEL" Bundle.listD A U H
theorem jS.same {A : Nat → Prop} {u U : State} {H : Heap} (hv : u.vm = U.vm) (h : jS A u H) : jS A U H :=
  ⟨fun w hw => va_Nw.same (jB_on w hw) hv (h.1 w hw), fun q hq => by
    obtain ⟨sa, hsa⟩ := h.2.1 q hq
    exact ⟨sa, vk_R.same hv.symm hsa⟩, vx_Zq.moved (by rw [hv]; exact Vm.Alike.refl _) h.2.2.1, vx_Zq.moved (by rw [hv]; exact Vm.Alike.refl _) h.2.2.2⟩
theorem jS.warm {A : Nat → Prop} {s U : State} {H : Heap} (hW : s.WarmedH U.vm) (h : jS A s H) : jS A U H :=
  ⟨jB_warm hW h.1, fun q hq => by
    obtain ⟨sa, hsa⟩ := h.2.1 q hq
    exact ⟨sa, vk_R.warm hW hsa⟩, vx_Zq.moved hW.alike h.2.2.1, vx_Zq.moved hW.alike h.2.2.2⟩
theorem jS.kept {A : Nat → Prop} {U : State} {H H1 : Heap} (hq : ∀ a : Nat, a < H.size → ¬ A a → H1[a]? = H[a]?) (h : jS A U H) : jS A U H1 := ⟨h.1, h.2.1, h.2.2.1.kept hq, h.2.2.2.kept hq⟩
theorem jS.narrow {A B : Nat → Prop} {U : State} {H : Heap} (hAB : ∀ q, B q → A q) (h : jS A U H) : jS B U H := ⟨h.1, h.2.1, h.2.2.1.narrow hAB, h.2.2.2.narrow hAB⟩
/-- the throwing road: an X comes out, nothing that was there has changed -/
abbrev jThr (l : Launch) (d : Nat → Nat) (D : va_G) (a : Nat → Nat) (n : Nat → Nat → Nat) (g : Nat → Nat) (y : MethodName) (b : ByteArray) (mx : Nat) (ret : Option FieldType) (rm : Room) (av : List Value) (X : String) : Prop :=
  vx_Met l y (.code y b mx ret :: jT) rm (va_Pc av (fun U => jU d D a n g U ∧ jS (fun _ => False) U U.heap)) (fun _ _ _ _ => False) (vx_X (fun _ : Unit => True) (fun E _ _ => E = X) (fun _ => False)) 1 6 (fun _ => False)
theorem jt_b {d : Nat → Nat} {D : va_G} {a : Nat → Nat} {n : Nat → Nat → Nat} {g : Nat → Nat} {av : List Value} : FrameBlind (va_Pc av (fun U => jU d D a n g U ∧ jS (fun _ => False) U U.heap)) := by
  intro A U f mk h
  exact ⟨h.1, ⟨jC.same (u := U) (U := U.calling f mk A) rfl h.2.1.1, h.2.1.2⟩, jS.same (u := U) (U := U.calling f mk A) rfl h.2.2⟩
abbrev jUp : List String := ["java/lang/RuntimeException", "java/lang/Exception"]
theorem jt_T {l : Launch} (hlt : l.stackTraces = false) {d : Nat → Nat} {D : va_G} {a : Nat → Nat} {n : Nat → Nat → Nat} {g : Nat → Nat} {y : MethodName} {b : ByteArray} {mx : Nat} {ret : Option FieldType} {rm : Room} {av : List Value} {X : String} (ik ic : Nat) (hyc : y.cls = "KeyDistiller") (hy : plainName y.cls = true) (hle : (lg_sl av).length ≤ mx) (hX : Bundle.fit X = true) (wk : Cond.classLink "KeyDistiller" ik X ∈ jT) (wi : Cond.initialized X ∈ jT)
    (hg : ∀ w ∈ (vx_atS "KeyDistiller" ic X jUp).filter goodWord, w ∈ jT) (hb : ∀ w ∈ (vx_atS "KeyDistiller" ic X jUp).filter (fun w => !goodWord w), w ∈ jB) (ho : ∀ w ∈ Cond.classLink "KeyDistiller" ik X :: Cond.initialized X :: vx_atS "KeyDistiller" ic X jUp, vx_ot w = true) (hR : 5 < rm.frames ∧ 82 ≤ rm.locals ∧ 1 ≤ rm.cells ∧ 6 ≤ rm.slots)
    (body : ∀ (p : Program) (e : Env) (s : State) (m : MethodId) (A : Array Value) (below : List Frame) (meth : Method) (c : Code) (ls : Array Slot) (Q : State → Prop), jX p s m A meth c b mx ret y.cls d D → va_P D jCl (jW d a n g) s.heap → lv_has ls mx (lv_args 0 av) →
      (∀ (pc is : Nat) (text : String) (ls : Array Slot), (is, text) ∈ jStr → ls.size = mx → decode b pc = .ok (.new ik, 3) → decode b (pc + 3) = .ok (.dup, 1) → decode b (pc + 4) = .ok (.ldc is, 2) → decode b (pc + 6) = .ok (.invokespecial ic, 3) → decode b (pc + 9) = .ok (.athrow, 1) → W p l e rm s m A below meth c s.heap [] 0 0 Q (F0 m pc ls [])) → W p l e rm s m A below meth c s.heap [] 0 0 Q (F0 m 0 ls [])) : jThr l d D a n g y b mx ret rm av X := by
  refine vx_ofW (cc := b) (maxL := mx) (ret := ret) hy rfl ?_
  intro p e s m args below meth c s₁ B hml hno hv
  obtain ⟨rfl, ⟨hC, hP⟩, hS⟩ := hv
  have hts := atoms_spec (ws := (Cond.code y b mx ret :: jT)) B.pre
  have hown := findClass_of_methodNamed B.named
  rw [lg_entry_eq]
  refine body p e s m _ below meth c _ _ ⟨B.exec, B.bytes, hml, B.returns, B.notSynchronized, hown, fun w h => hts w (List.mem_cons_of_mem _ h), hC⟩ hP (lv_entry av hle) ?_
  intro pc is text ls hs hsz d0 d3 d4 d6 d9
  obtain ⟨sa, hsa⟩ := hS.2.1 (is, text) hs
  have hown' : s.vm.findClass "KeyDistiller" = some m.cls := by rw [← hyc]; exact hown
  exact vx_throwS (own := "KeyDistiller") (cls := X) (text := text) (names := jUp) (ik := ik) (is := is) (ic := ic) (sa := sa) (A := fun _ => False) B.exec B.bytes hlt hown' hX (by decide +kernel) (hts _ (List.mem_cons_of_mem _ wk)) (hts _ (List.mem_cons_of_mem _ wi)) hsa
    (vx_hat (B := jB) (fun w h => hts _ (List.mem_cons_of_mem _ (hg w h))) hb (fun w h => va_Nw.use (jB_on w h) (hS.1 w h))) ho hS.2.2.1 hS.2.2.2 va_S.rf (hsz.trans hml.symm) d0 d3 d4 d6 d9 (fun x hx => absurd (hno x hx) id) hR.1 (by show 0 + (13 * (2 + 1) + 43) ≤ _; exact hR.2.1) (by show 0 + 1 ≤ _; exact hR.2.2.1) (by show 0 + 6 ≤ _; exact hR.2.2.2) B.notSynchronized
    (fun t hal hz hq => ⟨(), trivial, rfl, hz, fun q h1 _ => hq q h1⟩) (fun _ h => by cases h) (Nat.le_refl _) (Nat.le_refl _)
theorem jx_gIA : ∀ w ∈ (vx_atS "KeyDistiller" 57 "java/lang/IllegalArgumentException" jUp).filter goodWord, w ∈ jT := by decide +kernel
theorem jx_bIA : ∀ w ∈ (vx_atS "KeyDistiller" 57 "java/lang/IllegalArgumentException" jUp).filter (fun w => !goodWord w), w ∈ jB := by decide +kernel
theorem jx_oIA : ∀ w ∈ Cond.classLink "KeyDistiller" 53 "java/lang/IllegalArgumentException" :: Cond.initialized "java/lang/IllegalArgumentException" :: vx_atS "KeyDistiller" 57 "java/lang/IllegalArgumentException" jUp, vx_ot w = true := by decide +kernel
theorem jx_fIA : Bundle.fit "java/lang/IllegalArgumentException" = true := by decide +kernel
theorem jx_gIS : ∀ w ∈ (vx_atS "KeyDistiller" 76 "java/lang/IllegalStateException" jUp).filter goodWord, w ∈ jT := by decide +kernel
theorem jx_bIS : ∀ w ∈ (vx_atS "KeyDistiller" 76 "java/lang/IllegalStateException" jUp).filter (fun w => !goodWord w), w ∈ jB := by decide +kernel
theorem jx_oIS : ∀ w ∈ Cond.classLink "KeyDistiller" 72 "java/lang/IllegalStateException" :: Cond.initialized "java/lang/IllegalStateException" :: vx_atS "KeyDistiller" 76 "java/lang/IllegalStateException" jUp, vx_ot w = true := by decide +kernel
theorem jx_fIS : Bundle.fit "java/lang/IllegalStateException" = true := by decide +kernel
theorem jx_gIO : ∀ w ∈ (vx_atS "KeyDistiller" 151 "java/lang/IndexOutOfBoundsException" jUp).filter goodWord, w ∈ jT := by decide +kernel
theorem jx_bIO : ∀ w ∈ (vx_atS "KeyDistiller" 151 "java/lang/IndexOutOfBoundsException" jUp).filter (fun w => !goodWord w), w ∈ jB := by decide +kernel
theorem jx_oIO : ∀ w ∈ Cond.classLink "KeyDistiller" 147 "java/lang/IndexOutOfBoundsException" :: Cond.initialized "java/lang/IndexOutOfBoundsException" :: vx_atS "KeyDistiller" 151 "java/lang/IndexOutOfBoundsException" jUp, vx_ot w = true := by decide +kernel
theorem jx_fIO : Bundle.fit "java/lang/IndexOutOfBoundsException" = true := by decide +kernel
theorem jx_gUO : ∀ w ∈ (vx_atS "KeyDistiller" 217 "java/lang/UnsupportedOperationException" jUp).filter goodWord, w ∈ jT := by decide +kernel
theorem jx_bUO : ∀ w ∈ (vx_atS "KeyDistiller" 217 "java/lang/UnsupportedOperationException" jUp).filter (fun w => !goodWord w), w ∈ jB := by decide +kernel
theorem jx_oUO : ∀ w ∈ Cond.classLink "KeyDistiller" 213 "java/lang/UnsupportedOperationException" :: Cond.initialized "java/lang/UnsupportedOperationException" :: vx_atS "KeyDistiller" 217 "java/lang/UnsupportedOperationException" jUp, vx_ot w = true := by decide +kernel
theorem jx_fUO : Bundle.fit "java/lang/UnsupportedOperationException" = true := by decide +kernel
