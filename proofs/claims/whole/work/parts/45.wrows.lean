/-! rows for the law's wrappers: calls that throw, handlers, the law's long[1] -/
theorem arrV_c {c N : Nat} {f g : Nat → Value} (h : ∀ j, j < N → f j = g j) : arrV c N f = arrV c N g := by
  unfold arrV
  congr
  funext i
  exact h i.1 i.2
theorem va_P.re {D : va_G} {cl : List vw_C} {ws : va_W} {H : Heap} {k a : Nat} {e e' : va_E} (h : va_P D cl (ws.set k (a, e)) H) (he : va_at D cl (a, e) H → va_at D cl (a, e') H) : va_P D cl (ws.set k (a, e')) H := by
  intro i q hi
  have h1 := h i
  rw [List.getElem?_set] at hi
  by_cases hk : k = i
  · rw [if_pos hk] at hi
    subst hk
    split at hi
    · rename_i hl
      cases hi
      refine he (h1 (a, e) ?_)
      rw [List.getElem?_set, if_pos rfl, if_pos hl]
    · cases hi
  · rw [if_neg hk] at hi
    refine h1 q ?_
    rw [List.getElem?_set, if_neg hk]
    exact hi
def jNcL : List (String × String) := [("java/lang/IllegalStateException", "java/lang/IllegalArgumentException"), ("java/lang/IllegalArgumentException", "java/lang/IllegalStateException"), ("java/lang/IndexOutOfBoundsException", "java/lang/IllegalArgumentException"), ("java/lang/IllegalStateException", "java/lang/IndexOutOfBoundsException"), ("java/lang/IndexOutOfBoundsException", "java/lang/IllegalStateException"), ("java/lang/UnsupportedOperationException", "java/lang/IllegalStateException"), ("java/lang/UnsupportedOperationException", "java/lang/IllegalArgumentException")]
def jNc (U : State) : Prop := ∀ q ∈ jNcL, va_Nc q.1 q.2 U
theorem jNc.moved {u U : State} (hvm : u.vm.Alike U.vm) (h : jNc u) : jNc U := fun q hq => (h q hq).moved hvm
/-- what a wrapper is told -/
def jUw (d : Nat → Nat) (D : va_G) (a : Nat → Nat) (n : Nat → Nat → Nat) (g : Nat → Nat) (sz : Nat) (U : State) : Prop := U.heap.size = sz ∧ jU d D a n g U ∧ jS (fun _ => False) U U.heap ∧ jNc U
abbrev jWr (l : Launch) (d : Nat → Nat) (D : va_G) (a : Nat → Nat) (n : Nat → Nat → Nat) (g : Nat → Nat) (y : MethodName) (b : ByteArray) (mx : Nat) (hh : List (Nat × Nat × Nat × Nat)) (rm : Room) (av : List Value) (post : Option Value → (Nat → Nat → Nat) → (Nat → Nat) → Prop) : Prop :=
  ∀ sz : Nat, Met l y (.codeWith y b mx (some .int) hh :: jT) rm (va_Pc av (jUw d D a n g sz)) (jQE post d D a sz) 1 6 (jAa a sz)
theorem jw_b {d : Nat → Nat} {D : va_G} {a : Nat → Nat} {n : Nat → Nat → Nat} {g : Nat → Nat} {av : List Value} {sz : Nat} : FrameBlind (va_Pc av (jUw d D a n g sz)) := by
  intro A U f mk h
  exact ⟨h.1, h.2.1, ⟨jC.same (u := U) (U := U.calling f mk A) rfl h.2.2.1.1, h.2.2.1.2⟩, jS.same (u := U) (U := U.calling f mk A) rfl h.2.2.2.1, jNc.moved (u := U) (U := U.calling f mk A) (Vm.Alike.refl U.vm) h.2.2.2.2⟩
theorem j_wr {l : Launch} {d : Nat → Nat} {D : va_G} {a : Nat → Nat} {n : Nat → Nat → Nat} {g : Nat → Nat} {y : MethodName} {b : ByteArray} {mx : Nat} {hh : List (Nat × Nat × Nat × Nat)} {rm : Room} {av : List Value} {post : Option Value → (Nat → Nat → Nat) → (Nat → Nat) → Prop} (hy : plainName y.cls = true) (hle : (lg_sl av).length ≤ mx)
    (body : ∀ (p : Program) (e : Env) (s : State) (m : MethodId) (A : Array Value) (below : List Frame) (meth : Method) (c : Code) (ls : Array Slot) (Q : State → Prop), jX p s m A meth c b mx (some .int) y.cls d D → c.exceptionTable.toList = tableOf hh → jS (fun _ => False) s s.heap → jNc s → va_P D jCl (jW d a n g) s.heap → va_S (jAa a s.heap.size) s.heap s.heap [] → lv_has ls mx (lv_args 0 av) →
      (∀ (x : Nat) (n2 : Nat → Nat → Nat) (g2 : Nat → Nat) (H1 : Heap) (locs1 : List Loc) (pc : Nat) (ls : Array Slot), post (some (.int (nI x))) n2 g2 → va_P D jCl (jW d a n2 g2) H1 → va_S (jAa a s.heap.size) s.heap H1 locs1 → decode b pc = .ok (.ireturn, 1) → W p l e rm s m A below meth c H1 locs1 1 6 Q (F0 m pc ls [.int (nI x)])) → W p l e rm s m A below meth c s.heap [] 0 0 Q (F0 m 0 ls [])) : jWr l d D a n g y b mx hh rm av post := by
  intro sz
  refine MetFree.of_bodyS (code := b) (maxLocals := mx) (ret := some .int) hy ?_ ?_
  · intro args s m h hn
    obtain ⟨m9, meth, c, hn9, h1, h2, h3, h4, -, h5, h6, -⟩ := Cond.codeWith_spec (atoms_spec (ws := (Cond.codeWith y b mx (some .int) hh :: jT)) h _ List.mem_cons_self)
    cases hn.symm.trans hn9
    exact ⟨meth, c, h1, h2, h3, h4, h5, h6⟩
  · intro p e s m args below meth c s₁ B hml hv _
    have hh0 : s₁.heap = s.heap := by rw [B.state]; rfl
    obtain ⟨rfl, rfl, ⟨hC, hP⟩, hS, hN⟩ := hv
    have hts := atoms_spec (ws := (Cond.codeWith y b mx (some .int) hh :: jT)) B.pre
    have htab := vx_table (x := y) B (hts _ List.mem_cons_self)
    have K : W p l e rm s m av.toArray below meth c s.heap [] 0 0 (MQ below (jQE post d D a s.heap.size) av.toArray s 1 6 (jAa a s.heap.size)) (entryFrame m av.toArray mx) := by
      rw [lg_entry_eq]
      exact body p e s m _ below meth c _ _ ⟨B.exec, B.bytes, hml, B.returns, B.notSynchronized, findClass_of_methodNamed B.named, fun w h => hts w (List.mem_cons_of_mem _ h), hC⟩ htab hS hN hP va_S.rf (lv_entry av hle) fun x n2 g2 H1 locs1 pc ls hp hP1 hS1 hd => W.iret B.exec B.bytes B.returns (fun t ht _ => ⟨⟨_, n2, g2, rfl, hp, by rw [ht]; exact hP1⟩, hS1.F ht⟩) hS1.2.2 hd B.notSynchronized
    obtain ⟨t, a1, o, b1, b2, b3⟩ := K s₁ hh0 (Stand.of_body B)
    exact ⟨t, o, a1, b1, b2, ⟨b3.1, b3.2⟩⟩
section J45
variable {p : Program} {l : Launch} {e : Env} {R : Room} {s : State} {m : MethodId} {args : Array Value} {below : List Frame} {meth : Method} {c : Code} {H : Heap} {locs : List Loc} {cells slots : Nat} {Q : State → Prop}
variable {cc : ByteArray} {pc : Nat} {ls : Array Slot} {rest : List Value} {d : Nat → Nat} {D : va_G} {a : Nat → Nat} {n : Nat → Nat → Nat} {g : Nat → Nat} {mx : Nat} {ret : Option FieldType} {own : String} {H0 : Heap}
theorem j_lst (X : jX p s m args meth c cc mx ret own d D) (hap : ∀ i j : Nat, i < 52 → j < 52 → a i = a j → i = j) (hP : va_P D jCl (jW d a n g) H) (hS : va_S (jAa a H0.size) H0 H locs) (x : Nat) (hdg : decode cc pc = .ok (.lastore, 1))
    (kk : ∀ (H1 : Heap) (locs1 : List Loc), va_P D jCl (jW d a n (kg g 2 x)) H1 → va_S (jAa a H0.size) H0 H1 locs1 → W p l e R s m args below meth c H1 locs1 cells slots Q (F0 m (pc + 1) ls rest)) : W p l e R s m args below meth c H locs cells slots Q (F0 m pc ls (.long (lN x) :: .int (nI 0) :: .ref (a 51) :: rest)) := by
  refine va_last X.1 X.2.1 X.2.2.2.2.2.2.2.1 hP (jD hap) hS 51 2 (by rw [jW_g 51 (by decide)]; rfl) rfl (i := nI 0) (vp_in_nI (by decide) (by decide)) hdg (fun H1 locs1 h1 _ h3 => kk H1 locs1 ?_ h3)
  have h2 := va_P.re (e' := jE d a n (kg g 2 x) 51) h1 (fun h => by
    show H1[a 51]? = some (vp_cell (d 2) (1, .inr (.inl (fun _ => lN (kg g 2 x 2)))))
    have h9 : H1[a 51]? = some (vp_cell (d 2) (1, .inr (.inl (vp_updL (fun _ => lN (g 2)) (nI 0).toNatClampNeg (lN x))))) := h
    rw [h9, kg_s]
    congr 1)
  rw [jW_l 51 2 x (by decide) rfl] at h2
  exact h2
theorem j_lld (X : jX p s m args meth c cc mx ret own d D) (hP : va_P D jCl (jW d a n g) H) (hdg : decode cc pc = .ok (.laload, 1))
    (kk : W p l e R s m args below meth c H locs cells slots Q (F0 m (pc + 1) ls (.long (lN (g 2)) :: rest))) : W p l e R s m args below meth c H locs cells slots Q (F0 m pc ls (.int (nI 0) :: .ref (a 51) :: rest)) :=
  va_lald X.1 X.2.1 X.2.2.2.2.2.2.2.1 hP 51 2 (by rw [jW_g 51 (by decide)]; rfl) rfl (i := nI 0) (vp_in_nI (by decide) (by decide)) hdg kk
variable {y : MethodName} {bytes : ByteArray} {maxL index i : Nat} {rt : Option FieldType} {rm : Room} {As st0 : List Value}
/-- a call that throws: the world stays, an X flies -/
theorem j_thr {XN : String} (X : jX p s m args meth c cc mx ret own d D) (hP : va_P D jCl (jW d a n g) H) (hS : va_S (jAa a H0.size) H0 H locs) (hJ : jS (fun _ => False) s H) (hM : jThr l d D a n g y bytes maxL rt rm (.ref (a i) :: As) XN) (w1 : Cond.code y bytes maxL rt ∈ jT) (w2 : Cond.instanceMethod y ∈ jT) (w3 : Cond.selects y.cls y y ∈ jT) (w4 : Cond.initialized y.cls ∈ jT) (w5 : Cond.methodLink own index y ∈ jT)
    {ci : Nat} {fs : List Value} {T : u_T} {N : Nat} (hi : i < 52) (hE : jE d a n g i = .inr (ci, fs)) (hc : jCl[ci]? = some (y.cls, T, N)) (hd : jOk y As.length) (hR : rm.frames + 1 ≤ R.frames ∧ 8 + (maxL + 11) + rm.locals ≤ R.locals) (hz : rm.cells = 1 ∧ rm.slots = 6) (hls : ls.size = mx) (hst : st0 = As.reverse ++ .ref (a i) :: rest) (hro : (rest.map fun v => v.category).sum ≤ 8) (hcs : cells + 1 ≤ R.cells ∧ slots + 6 ≤ R.slots) (hdg : decode cc pc = .ok (.invokevirtual index, 3))
    (kx : ∀ (ce : Cell) (q : Addr) (H1 : Heap) (locs1 : List Loc), va_P D jCl (jW d a n g) H1 → va_S (jAa a H0.size) H0 H1 locs1 → H1[q]? = some ce → ce.vm = .none → s.vm.findClass XN = some ce.cls → vx_W p l e R s m args below meth c H1 locs1 (cells + 1) (slots + 6) Q (F0 m pc ls rest) q) : W p l e R s m args below meth c H locs cells slots Q (F0 m pc ls st0) := by
  have hts := X.2.2.2.2.2.2.1
  have hr := vx_runV (p := p) (e := e) (below := below) (meth := meth) (locs := locs) (cells := cells) (slots := slots) (Ts := jT) (own := own) (C := y.cls) (n := As.length) (bytes := bytes) (maxL := maxL) (ret := rt) (g := F0 m pc ls st0) (rest := rest) (H := H) ⟨X.1, X.2.1, X.2.2.1, X.2.2.2.2.2.1, hts⟩ hM ⟨callB_of (Ts := jT) As.length hts (fun w h => by
      rcases List.mem_cons.mp h with rfl | h
      · exact ⟨w1, good_of_word (List.mem_filter.mp w1).2⟩
      · exact ⟨h, good_of_word (List.mem_filter.mp h).2⟩) rfl hz.1 hz.2 (hts _ w4) (hts _ w5) hd hR, hts _ w2, hts _ w3⟩ ⟨jt_b, va_recv X.2.2.2.2.2.2.2.1 hP hc (by rw [jW_g i hi, hE]), fun U hU hW => ⟨rfl, ⟨jC.warm hW X.2.2.2.2.2.2.2, by rw [hU]; exact hP⟩, by rw [hU]; exact jS.warm hW hJ⟩⟩ rfl rfl hls hst (lv_room hro) hdg hcs
  intro T hT XX
  rcases hr T hT XX with ⟨v, st₀, t, T', L, h0, X', hL, e1, e2, hF, st⟩ | ⟨q, st₀, t, T', L, E, ce, h0, X', hL, e1, e2, ⟨u, -, hb, hF⟩, hce, hcv, hcl, st⟩
  · exact absurd hF id
  · subst hb
    obtain ⟨hz1, hk1⟩ := hF
    rw [h0] at hz1 hk1
    obtain ⟨t2, a1, b1⟩ := kx ce q T'.heap (locs ++ L) (by rw [e1]; exact hP.kept (fun k x hx => hk1 x.1 ((hP k x hx).lt) id)) ⟨Nat.le_trans hS.1 (by rw [e1]; exact hz1), fun q h1 h2 => by
        rw [e1, hk1 q (Nat.lt_of_lt_of_le h1 hS.1) id]
        exact hS.2.1 q h1 h2, fun q hq => by
        rcases List.mem_append.mp hq with h | h
        · exact hS.2.2 q h
        · exact absurd (hL q h) id⟩ (by rw [e1]; exact hce) hcv hcl T' rfl X'
    exact ⟨t2, st.trans a1, b1⟩
end J45
