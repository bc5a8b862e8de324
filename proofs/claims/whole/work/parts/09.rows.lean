/-! what every method is told, and the rows over the world. Printed by wip/gen/gen09.py -/
def jN : List Cond := [Cond.methodLinkNest "KeyDistiller" 9 ⟨"KeyDistiller$Station", "<init>", "()V"⟩ "KeyDistiller", Cond.fieldLinkNest "KeyDistiller" 230 "KeyDistiller$Station" "noted" "[Z" "KeyDistiller", Cond.fieldLinkNest "KeyDistiller" 237 "KeyDistiller$Station" "bases" "[I" "KeyDistiller", Cond.fieldLinkNest "KeyDistiller" 92 "KeyDistiller$Station" "values" "[I" "KeyDistiller", Cond.fieldLinkNest "KeyDistiller" 234 "KeyDistiller$Station" "seen" "[I" "KeyDistiller", Cond.fieldLinkNest "KeyDistiller" 89 "KeyDistiller$Station" "string" "[I" "KeyDistiller", Cond.fieldLinkNest "KeyDistiller$Dialogue" 145 "KeyDistiller$Station" "string" "[I" "KeyDistiller", Cond.fieldLinkNest "KeyDistiller" 81 "KeyDistiller$Station" "notedInAll" "I" "KeyDistiller", Cond.methodLinkNest "KeyDistiller" 21 ⟨"KeyDistiller$Drawing", "<init>", "()V"⟩ "KeyDistiller", Cond.methodLinkNest "KeyDistiller" 28 ⟨"KeyDistiller$Dialogue", "<init>", "(LKeyDistiller$Station;LKeyDistiller$Station;)V"⟩ "KeyDistiller", Cond.methodLinkNest "KeyDistiller$Dialogue" 11 ⟨"KeyDistiller$Letters", "<init>", "()V"⟩ "KeyDistiller", Cond.fieldLinkNest "KeyDistiller$Dialogue" 59 "KeyDistiller$Letters" "kinds" "[I" "KeyDistiller", Cond.fieldLinkNest "KeyDistiller" 161 "KeyDistiller$Letters" "kinds" "[I" "KeyDistiller", Cond.fieldLinkNest "KeyDistiller$Dialogue" 56 "KeyDistiller$Letters" "numbers" "[I" "KeyDistiller", Cond.fieldLinkNest "KeyDistiller" 164 "KeyDistiller$Letters" "numbers" "[I" "KeyDistiller", Cond.fieldLinkNest "KeyDistiller$Dialogue" 66 "KeyDistiller$Letters" "parities" "[I" "KeyDistiller", Cond.fieldLinkNest "KeyDistiller" 167 "KeyDistiller$Letters" "parities" "[I" "KeyDistiller", Cond.fieldLinkNest "KeyDistiller" 137 "KeyDistiller$Letters" "count" "I" "KeyDistiller", Cond.fieldLinkNest "KeyDistiller" 133 "KeyDistiller$Dialogue" "letters" "LKeyDistiller$Letters;" "KeyDistiller", Cond.fieldLinkNest "KeyDistiller" 125 "KeyDistiller$Dialogue" "orders" "[[I" "KeyDistiller", Cond.fieldLinkNest "KeyDistiller" 192 "KeyDistiller$Dialogue" "questions" "[I" "KeyDistiller", Cond.fieldLinkNest "KeyDistiller" 189 "KeyDistiller$Dialogue" "disclosures" "I" "KeyDistiller", Cond.fieldLinkNest "KeyDistiller" 186 "KeyDistiller$Dialogue" "current" "I" "KeyDistiller", Cond.methodLinkNest "KeyDistiller" 144 ⟨"KeyDistiller$Letters", "has", "(I)Z"⟩ "KeyDistiller", Cond.methodLinkNest "KeyDistiller" 174 ⟨"KeyDistiller$Dialogue", "tell", "(II)I"⟩ "KeyDistiller", Cond.methodLinkNest "KeyDistiller" 183 ⟨"KeyDistiller$Dialogue", "isOver", "()Z"⟩ "KeyDistiller", Cond.methodLinkNest "KeyDistiller" 68 ⟨"KeyDistiller$Station", "hasAnyOf", "(II)Z"⟩ "KeyDistiller", Cond.methodLinkNest "KeyDistiller" 77 ⟨"KeyDistiller$Station", "note", "(IIIII)V"⟩ "KeyDistiller", Cond.methodLinkNest "KeyDistiller" 95 ⟨"KeyDistiller$Dialogue", "isBegun", "()Z"⟩ "KeyDistiller", Cond.methodLinkNest "KeyDistiller" 102 ⟨"KeyDistiller$Drawing", "shuffle", "(JI[I)V"⟩ "KeyDistiller", Cond.methodLinkNest "KeyDistiller" 112 ⟨"KeyDistiller$Station", "leaveOut", "([II)V"⟩ "KeyDistiller", Cond.methodLinkNest "KeyDistiller" 129 ⟨"KeyDistiller$Dialogue", "begin", "(II)V"⟩ "KeyDistiller", Cond.methodLinkNest "KeyDistiller$Dialogue" 107 ⟨"KeyDistiller$Letters", "send", "(III)V"⟩ "KeyDistiller", Cond.methodLinkNest "KeyDistiller$Dialogue" 101 ⟨"KeyDistiller$Station", "parity", "([III)I"⟩ "KeyDistiller", Cond.methodLinkNest "KeyDistiller" 154 ⟨"KeyDistiller$Dialogue", "deliver", "(I)V"⟩ "KeyDistiller", Cond.methodLinkNest "KeyDistiller$Dialogue" 75 ⟨"KeyDistiller$Letters", "takeOut", "(I)V"⟩ "KeyDistiller", Cond.methodLinkNest "KeyDistiller" 158 ⟨"KeyDistiller$Letters", "takeOut", "(I)V"⟩ "KeyDistiller", Cond.methodLinkNest "KeyDistiller" 170 ⟨"KeyDistiller$Letters", "send", "(III)V"⟩ "KeyDistiller", Cond.methodLinkNest "KeyDistiller" 180 ⟨"KeyDistiller$Dialogue", "askAgain", "()V"⟩ "KeyDistiller", Cond.methodLinkNest "KeyDistiller" 206 ⟨"KeyDistiller$Station", "tagWith", "(II)I"⟩ "KeyDistiller", Cond.methodLinkNest "KeyDistiller" 218 ⟨"KeyDistiller$Drawing", "restart", "(J)V"⟩ "KeyDistiller", Cond.methodLinkNest "KeyDistiller" 222 ⟨"KeyDistiller$Drawing", "drawBit", "()I"⟩ "KeyDistiller"]
def jIsN : Cond → Bool
  | .fieldLinkNest .. => true
  | .methodLinkNest .. => true
  | _ => false
theorem jN_all : ∀ w ∈ jN, jIsN w = true := by decide +kernel
theorem jN_on : ∀ w ∈ jN, w.onTables = true := by decide +kernel
/-- the tables' facts that a method is told -/
def jC (d : Nat → Nat) (D : va_G) (U : State) : Prop := va_K D jCl (jTy d) U ∧ ∀ w ∈ jN, va_Nw w U
theorem jC.warm {d : Nat → Nat} {D : va_G} {s U : State} (hW : s.WarmedH U.vm) (h : jC d D s) : jC d D U :=
  ⟨va_K.moved hW.alike h.1, fun w hw => by
    have h1 := jN_all w hw
    have h2 := h.2 w hw
    cases w <;> first | exact va_Nw.warmF hW h2 | exact va_Nw.warmM hW h2 | exact absurd h1 (by simp [jIsN])⟩
theorem jC.same {d : Nat → Nat} {D : va_G} {u U : State} (hv : u.vm = U.vm) (h : jC d D u) : jC d D U :=
  ⟨va_K.moved (by rw [hv]; exact Vm.Alike.refl _) h.1, fun w hw => va_Nw.same (jN_on w hw) hv (h.2 w hw)⟩
def jU (d : Nat → Nat) (D : va_G) (a : Nat → Nat) (n : Nat → Nat → Nat) (g : Nat → Nat) (U : State) : Prop := jC d D U ∧ va_P D jCl (jW d a n g) U.heap
theorem jU_b {d : Nat → Nat} {D : va_G} {a : Nat → Nat} {n : Nat → Nat → Nat} {g : Nat → Nat} {av : List Value} : FrameBlind (va_Pc av (jU d D a n g)) := by
  intro A U f mk h
  exact ⟨h.1, jC.same (u := U) (U := U.calling f mk A) rfl h.2.1, h.2.2⟩
theorem jU_bs {d : Nat → Nat} {D : va_G} {a : Nat → Nat} {n : Nat → Nat → Nat} {g : Nat → Nat} {av : List Value} {sz : Nat} : FrameBlind (va_Pc av (fun U => U.heap.size = sz ∧ jU d D a n g U)) := by
  intro A U f mk h
  exact ⟨h.1, h.2.1, jC.same (u := U) (U := U.calling f mk A) rfl h.2.2.1, h.2.2.2⟩
/-- a pure method: it answers v, the heap stays -/
def jQ (v : Option Value) : Array Value → State → Outcome → State → Prop := fun _ st oc t => oc = .returned v ∧ t.heap = st.heap
abbrev jPure (l : Launch) (d : Nat → Nat) (D : va_G) (a : Nat → Nat) (n : Nat → Nat → Nat) (g : Nat → Nat) (y : MethodName) (b : ByteArray) (mx : Nat) (ret : Option FieldType) (rm : Room) (av : List Value) (v : Option Value) : Prop :=
  Met l y (.code y b mx ret :: jT) rm (va_Pc av (jU d D a n g)) (jQ v) 0 0 (fun _ => False)
def jAa (a : Nat → Nat) (sz : Nat) : Nat → Prop := fun q => (∃ i, i < 52 ∧ q = a i) ∨ sz ≤ q
theorem jAa.mono {a : Nat → Nat} {x y q : Nat} (h : x ≤ y) (hq : jAa a y q) : jAa a x q := hq.elim Or.inl (fun z => Or.inr (Nat.le_trans h z))
/-- a method that changes the world's numbers -/
def jQE (post : Option Value → (Nat → Nat → Nat) → (Nat → Nat) → Prop) (d : Nat → Nat) (D : va_G) (a : Nat → Nat) (sz : Nat) : Array Value → State → Outcome → State → Prop := fun _ st oc t =>
  (∃ (v : Option Value) (n2 : Nat → Nat → Nat) (g2 : Nat → Nat), oc = .returned v ∧ post v n2 g2 ∧ va_P D jCl (jW d a n2 g2) t.heap) ∧ va_F (jAa a sz) st t
abbrev jEff (l : Launch) (d : Nat → Nat) (D : va_G) (a : Nat → Nat) (n : Nat → Nat → Nat) (g : Nat → Nat) (y : MethodName) (b : ByteArray) (mx : Nat) (ret : Option FieldType) (rm : Room) (av : List Value) (post : Option Value → (Nat → Nat → Nat) → (Nat → Nat) → Prop) : Prop :=
  ∀ sz : Nat, Met l y (.code y b mx ret :: jT) rm (va_Pc av (fun U => U.heap.size = sz ∧ jU d D a n g U)) (jQE post d D a sz) 0 0 (jAa a sz)
/-- what a walk knows all along -/
def jX (p : Program) (s : State) (m : MethodId) (args : Array Value) (meth : Method) (c : Code) (b : ByteArray) (mx : Nat) (ret : Option FieldType) (own : String) (d : Nat → Nat) (D : va_G) : Prop :=
  p.tables.exec = Jvm.exec ∧ c.code = b ∧ c.maxLocals = mx ∧ meth.sig.returnType = ret ∧ meth.locks = false ∧ s.vm.findClass own = some m.cls ∧ (∀ w ∈ jT, w.before args s = true) ∧ jC d D s
theorem j_pure {l : Launch} {d : Nat → Nat} {D : va_G} {a : Nat → Nat} {n : Nat → Nat → Nat} {g : Nat → Nat} {y : MethodName} {b : ByteArray} {mx : Nat} {ret : Option FieldType} {rm : Room} {av : List Value} {v : Option Value} (hy : plainName y.cls = true) (hle : (lg_sl av).length ≤ mx)
    (body : ∀ (p : Program) (e : Env) (s : State) (m : MethodId) (below : List Frame) (meth : Method) (c : Code) (ls : Array Slot), jX p s m av.toArray meth c b mx ret y.cls d D → va_P D jCl (jW d a n g) s.heap → lv_has ls mx (lv_args 0 av) →
      W p l e rm s m av.toArray below meth c s.heap [] 0 0 (MQ below (jQ v) av.toArray s 0 0 (fun _ => False)) (F0 m 0 ls [])) : jPure l d D a n g y b mx ret rm av v := by
  refine Met.ofW (cc := b) (maxL := mx) (ret := ret) hy rfl ?_
  intro p e s m args below meth c s₁ B hml hv
  obtain ⟨rfl, hC, hP⟩ := hv
  have hts := atoms_spec (ws := (Cond.code y b mx ret :: jT)) B.pre
  rw [lg_entry_eq]
  exact body p e s m below meth c _ ⟨B.exec, B.bytes, hml, B.returns, B.notSynchronized, findClass_of_methodNamed B.named, fun w h => hts w (List.mem_cons_of_mem _ h), hC⟩ hP (lv_entry av hle)
theorem j_eff {l : Launch} {d : Nat → Nat} {D : va_G} {a : Nat → Nat} {n : Nat → Nat → Nat} {g : Nat → Nat} {y : MethodName} {b : ByteArray} {mx : Nat} {ret : Option FieldType} {rm : Room} {av : List Value} {post : Option Value → (Nat → Nat → Nat) → (Nat → Nat) → Prop} (hy : plainName y.cls = true) (hle : (lg_sl av).length ≤ mx)
    (body : ∀ (p : Program) (e : Env) (s : State) (m : MethodId) (below : List Frame) (meth : Method) (c : Code) (ls : Array Slot), jX p s m av.toArray meth c b mx ret y.cls d D → va_P D jCl (jW d a n g) s.heap → lv_has ls mx (lv_args 0 av) →
      W p l e rm s m av.toArray below meth c s.heap [] 0 0 (MQ below (jQE post d D a s.heap.size) av.toArray s 0 0 (jAa a s.heap.size)) (F0 m 0 ls [])) : jEff l d D a n g y b mx ret rm av post := by
  intro sz
  refine Met.ofW (cc := b) (maxL := mx) (ret := ret) hy rfl ?_
  intro p e s m args below meth c s₁ B hml hv
  obtain ⟨rfl, rfl, hC, hP⟩ := hv
  have hts := atoms_spec (ws := (Cond.code y b mx ret :: jT)) B.pre
  rw [lg_entry_eq]
  exact body p e s m below meth c _ ⟨B.exec, B.bytes, hml, B.returns, B.notSynchronized, findClass_of_methodNamed B.named, fun w h => hts w (List.mem_cons_of_mem _ h), hC⟩ hP (lv_entry av hle)
theorem jD {d a : Nat → Nat} {n : Nat → Nat → Nat} {g : Nat → Nat} {sz : Nat} (hap : ∀ i j : Nat, i < 52 → j < 52 → a i = a j → i = j) : va_D (jAa a sz) (jW d a n g) := by
  have key : ∀ (k : Nat) (q : Nat × va_E), (jW d a n g)[k]? = some q → k < 52 ∧ q.1 = a k := by
    intro k q h
    have hk : k < 52 := by
      have := (List.getElem?_eq_some_iff.mp h).1
      simpa [jW] using this
    rw [jW_g k hk] at h
    cases h
    exact ⟨hk, rfl⟩
  refine ⟨fun i j x y hi hj hxy => ?_, fun k q hk => ?_⟩
  · obtain ⟨h1, e1⟩ := key i x hi
    obtain ⟨h2, e2⟩ := key j y hj
    exact hap i j h1 h2 (by rw [← e1, ← e2]; exact hxy)
  · obtain ⟨h1, e1⟩ := key k q hk
    exact Or.inl ⟨k, h1, e1⟩
theorem jnar {x : Nat} (h : x < 2) : vp_nar .boolean (nI x) = nI x := by
  rcases (show x = 0 ∨ x = 1 by omega) with rfl | rfl <;> decide
section J9
variable {p : Program} {l : Launch} {e : Env} {R : Room} {s : State} {m : MethodId} {args : Array Value} {below : List Frame} {meth : Method} {c : Code} {H : Heap} {locs : List Loc} {cells slots : Nat} {Q : State → Prop}
variable {cc : ByteArray} {pc : Nat} {ls : Array Slot} {rest : List Value} {d : Nat → Nat} {D : va_G} {a : Nat → Nat} {n : Nat → Nat → Nat} {g : Nat → Nat} {mx : Nat} {ret : Option FieldType} {own : String} {H0 : Heap}
theorem j_ald (X : jX p s m args meth c cc mx ret own d D) (hP : va_P D jCl (jW d a n g) H) (i k : Nat) (hi : i < 52) (h : k < jI i) (hj : jI i < 1000) (hdg : decode cc pc = .ok (.iaload, 1))
    (kk : W p l e R s m args below meth c H locs cells slots Q (F0 m (pc + 1) ls (.int (nI (n i k)) :: rest))) : W p l e R s m args below meth c H locs cells slots Q (F0 m pc ls (.int (nI k) :: .ref (a i) :: rest)) := by
  have hh := va_iald (rest := rest) (Q := Q) (l := l) (e := e) (R := R) (m := m) (args := args) (below := below) (meth := meth) (locs := locs) (cells := cells) (slots := slots) (pc := pc) (ls := ls) X.1 X.2.1 X.2.2.2.2.2.2.2.1 hP i 0 (by rw [jW_g i hi, jE_I i hi (by omega)]) rfl (i := nI k) (vp_in_nI h (by omega)) hdg
  rw [nI_clamp (by omega)] at hh
  exact hh kk
theorem j_zald (X : jX p s m args meth c cc mx ret own d D) (hP : va_P D jCl (jW d a n g) H) (i k : Nat) (hi : i < 52) (h : k < jZ i) (hj : jZ i < 1000) (hdg : decode cc pc = .ok (.baload, 1))
    (kk : W p l e R s m args below meth c H locs cells slots Q (F0 m (pc + 1) ls (.int (nI (n i k)) :: rest))) : W p l e R s m args below meth c H locs cells slots Q (F0 m pc ls (.int (nI k) :: .ref (a i) :: rest)) := by
  have hh := va_zald (rest := rest) (Q := Q) (l := l) (e := e) (R := R) (m := m) (args := args) (below := below) (meth := meth) (locs := locs) (cells := cells) (slots := slots) (pc := pc) (ls := ls) X.1 X.2.1 X.2.2.2.2.2.2.2.1 hP i 1 (by rw [jW_g i hi, jE_Z i hi (by omega)]) rfl (i := nI k) (vp_in_nI h (by omega)) hdg
  rw [nI_clamp (by omega)] at hh
  exact hh kk
theorem j_ast (X : jX p s m args meth c cc mx ret own d D) (hap : ∀ i j : Nat, i < 52 → j < 52 → a i = a j → i = j) (hP : va_P D jCl (jW d a n g) H) (hS : va_S (jAa a H0.size) H0 H locs) (i k x : Nat) (hi : i < 52) (h : k < jI i) (hj : jI i < 1000) (hdg : decode cc pc = .ok (.iastore, 1))
    (kk : ∀ (H1 : Heap) (locs1 : List Loc), va_P D jCl (jW d a (ku n i k x) g) H1 → va_S (jAa a H0.size) H0 H1 locs1 → W p l e R s m args below meth c H1 locs1 cells slots Q (F0 m (pc + 1) ls rest)) : W p l e R s m args below meth c H locs cells slots Q (F0 m pc ls (.int (nI x) :: .int (nI k) :: .ref (a i) :: rest)) := by
  refine va_iast X.1 X.2.1 X.2.2.2.2.2.2.2.1 hP (jD hap) hS i 0 (by rw [jW_g i hi, jE_I i hi (by omega)]) rfl (i := nI k) (vp_in_nI h (by omega)) hdg (fun H1 locs1 h1 _ h3 => kk H1 locs1 ?_ h3)
  rw [nI_clamp (by omega), jW_u i k x (by rw [jE_I i hi (by omega), ku_fun])] at h1
  exact h1
theorem j_zast (X : jX p s m args meth c cc mx ret own d D) (hap : ∀ i j : Nat, i < 52 → j < 52 → a i = a j → i = j) (hP : va_P D jCl (jW d a n g) H) (hS : va_S (jAa a H0.size) H0 H locs) (i k x : Nat) (hi : i < 52) (h : k < jZ i) (hj : jZ i < 1000) (hx2 : x < 2) (hdg : decode cc pc = .ok (.bastore, 1))
    (kk : ∀ (H1 : Heap) (locs1 : List Loc), va_P D jCl (jW d a (ku n i k x) g) H1 → va_S (jAa a H0.size) H0 H1 locs1 → W p l e R s m args below meth c H1 locs1 cells slots Q (F0 m (pc + 1) ls rest)) : W p l e R s m args below meth c H locs cells slots Q (F0 m pc ls (.int (nI x) :: .int (nI k) :: .ref (a i) :: rest)) := by
  refine va_zast X.1 X.2.1 X.2.2.2.2.2.2.2.1 hP (jD hap) hS i 1 (by rw [jW_g i hi, jE_Z i hi (by omega)]) rfl (i := nI k) (vp_in_nI h (by omega)) hdg (fun H1 locs1 h1 _ h3 => kk H1 locs1 ?_ h3)
  rw [nI_clamp (by omega), jnar hx2, jW_u i k x (by rw [jE_Z i hi (by omega), ku_fun])] at h1
  exact h1
theorem j_get (X : jX p s m args meth c cc mx ret own d D) (hP : va_P D jCl (jW d a n g) H) {C : String} {T : u_T} {N ci index : Nat} (i k : Nat) (hi : i < 52) {fs : List Value} (hE : jE d a n g i = .inr (ci, fs)) (hc : jCl[ci]? = some (C, T, N)) (hin : ∀ w ∈ u_ws C T N, w ∈ jT) (hk : k < N) (hl : Cond.fieldLink own index (T k).1 (T k).2.1 (T k).2.2.1 ∈ jT) {v : Value} (hv : fs[k]? = some v) (hdg : decode cc pc = .ok (.getfield index, 3))
    (kk : W p l e R s m args below meth c H locs cells slots Q (F0 m (pc + 3) ls (v :: rest))) : W p l e R s m args below meth c H locs cells slots Q (F0 m pc ls (.ref (a i) :: rest)) :=
  va_get X.1 X.2.1 X.2.2.2.2.2.2.1 hin X.2.2.2.2.2.1 X.2.2.2.2.2.2.2.1 hP i (by rw [jW_g i hi, hE]) hc k hk (X.2.2.2.2.2.2.1 _ hl) (fun _ h => h) hv hdg kk
theorem j_getN (X : jX p s m args meth c cc mx ret own d D) (hP : va_P D jCl (jW d a n g) H) {C host : String} {T : u_T} {N ci index : Nat} (i k : Nat) (hi : i < 52) {fs : List Value} (hE : jE d a n g i = .inr (ci, fs)) (hc : jCl[ci]? = some (C, T, N)) (hin : ∀ w ∈ u_ws C T N, w ∈ jT) (hk : k < N) (hl : Cond.fieldLinkNest own index (T k).1 (T k).2.1 (T k).2.2.1 host ∈ jN) {v : Value} (hv : fs[k]? = some v) (hdg : decode cc pc = .ok (.getfield index, 3))
    (kk : W p l e R s m args below meth c H locs cells slots Q (F0 m (pc + 3) ls (v :: rest))) : W p l e R s m args below meth c H locs cells slots Q (F0 m pc ls (.ref (a i) :: rest)) :=
  va_getN X.1 X.2.1 X.2.2.2.2.2.2.1 hin X.2.2.2.2.2.1 X.2.2.2.2.2.2.2.1 hP i (by rw [jW_g i hi, hE]) hc k hk (va_Nw.use rfl (X.2.2.2.2.2.2.2.2 _ hl)) (fun _ h => h) hv hdg kk
theorem j_put (X : jX p s m args meth c cc mx ret own d D) (hap : ∀ i j : Nat, i < 52 → j < 52 → a i = a j → i = j) (hP : va_P D jCl (jW d a n g) H) (hS : va_S (jAa a H0.size) H0 H locs) {C : String} {T : u_T} {N ci index : Nat} (i k : Nat) {n2 : Nat → Nat → Nat} {g2 : Nat → Nat} (hi : i < 52) {fs : List Value} (hE : jE d a n g i = .inr (ci, fs)) {v : Value} (hW : (jW d a n g).set i (a i, .inr (ci, fs.set k v)) = jW d a n2 g2) (hc : jCl[ci]? = some (C, T, N)) (hin : ∀ w ∈ u_ws C T N, w ∈ jT) (ty0 : Nat → FieldType) (hty : ∀ k, k < N → parseFieldDescriptor (T k).2.2.1 = some (ty0 k)) (hnm : ∀ a, a < N → ∀ b, b < N → a ≠ b → (T a).2.1 ≠ (T b).2.1) (hk : k < N) (hl : Cond.fieldLink own index (T k).1 (T k).2.1 (T k).2.2.1 ∈ jT) (hfin : (T k).2.2.2 = false) {ty : FieldType} (hd : parseFieldDescriptor (T k).2.2.1 = some ty) (hn : narrow ty v = v) (hfit : fits ty v = true) (hlen : k < fs.length) (hdg : decode cc pc = .ok (.putfield index, 3))
    (kk : ∀ (H1 : Heap) (locs1 : List Loc), va_P D jCl (jW d a n2 g2) H1 → va_S (jAa a H0.size) H0 H1 locs1 → W p l e R s m args below meth c H1 locs1 cells slots Q (F0 m (pc + 3) ls rest)) : W p l e R s m args below meth c H locs cells slots Q (F0 m pc ls (v :: .ref (a i) :: rest)) :=
  va_put X.1 X.2.1 X.2.2.2.2.2.2.1 hin ty0 hty hnm X.2.2.2.2.2.1 X.2.2.2.2.2.2.2.1 hP (jD hap) hS i (by rw [jW_g i hi, hE]) hc k hk (X.2.2.2.2.2.2.1 _ hl) (fun _ h => h) hfin hd hn hfit hlen hdg (fun H1 locs1 h1 _ h3 => kk H1 locs1 (by rw [← hW]; exact h1) h3)
/-- an int[][]'s row -/
theorem j_aald (X : jX p s m args meth c cc mx ret own d D) (hP : va_P D jCl (jW d a n g) H) (i k : Nat) (hi : i = 19 ∨ i = 24) (h : k < 4) (hdg : decode cc pc = .ok (.aaload, 1))
    (kk : W p l e R s m args below meth c H locs cells slots Q (F0 m (pc + 1) ls (.ref (a (i + 1 + k)) :: rest))) : W p l e R s m args below meth c H locs cells slots Q (F0 m pc ls (.int (nI k) :: .ref (a i) :: rest)) := by
  have hcell : H[a i]? = some (arrV (d 3) 4 (fun j => va_rf (some (a (i + 1 + j))))) := by
    have h1 := hP i (a i, jE d a n g i) (jW_g i (by omega))
    rcases hi with rfl | rfl <;> exact h1
  have hn : k < 4 := h
  refine W.aald (v := .ref (a (i + 1 + k))) X.1 X.2.1 hcell ((X.2.2.2.2.2.2.2.1.2 3 (d 3, .array .int) rfl).1 4 _) rfl (fun q => by cases q) ?_ ?_ rfl rfl hdg kk
  · rw [arrV_size]; exact vp_in_nI hn (by omega)
  · rw [nI_clamp (by omega), arrV_read _ _ hn]; rfl
/-- a call of a pure method -/
theorem j_run {v : Option Value} {st0 : List Value} {av : Array Value} (hr : va_Run p l e R s m args below meth c H locs cells slots 0 0 (F0 m pc ls st0) rest (jQ v av) (fun _ => False))
    (kk : W p l e R s m args below meth c H locs cells slots Q (F0 m (pc + 3) ls (v.toList ++ rest))) : W p l e R s m args below meth c H locs cells slots Q (F0 m pc ls st0) := by
  intro T hT X
  obtain ⟨v', st₀, t, T', L, h0, X', hL, e1, e2, ⟨hv, hh⟩, st⟩ := hr T hT X
  cases hv
  have hL0 : L = [] := List.eq_nil_iff_forall_not_mem.mpr (fun q hq => hL q hq)
  subst hL0
  rw [List.append_nil] at X'
  obtain ⟨t2, a1, b1⟩ := kk T' (by rw [e1, hh, h0]) X'
  exact ⟨t2, st t2 a1, b1⟩
/-- a call of a method that changes numbers -/
theorem j_rune {post : Option Value → (Nat → Nat → Nat) → (Nat → Nat) → Prop} {st0 : List Value} {av : Array Value} (hr : va_Run p l e R s m args below meth c H locs cells slots 0 0 (F0 m pc ls st0) rest (jQE post d D a H.size av) (jAa a H.size)) (hS : va_S (jAa a H0.size) H0 H locs)
    (kk : ∀ (v : Option Value) (n2 : Nat → Nat → Nat) (g2 : Nat → Nat) (H1 : Heap) (locs1 : List Loc), post v n2 g2 → va_P D jCl (jW d a n2 g2) H1 → va_S (jAa a H0.size) H0 H1 locs1 → W p l e R s m args below meth c H1 locs1 cells slots Q (F0 m (pc + 3) ls (v.toList ++ rest))) : W p l e R s m args below meth c H locs cells slots Q (F0 m pc ls st0) := by
  intro T hT X
  obtain ⟨v', st₀, t, T', L, h0, X', hL, e1, e2, ⟨⟨v, n2, g2, hv, hp, hw⟩, hz, hk⟩, st⟩ := hr T hT X
  cases hv
  rw [h0] at hz hk
  obtain ⟨t2, a1, b1⟩ := kk v' n2 g2 T'.heap (locs ++ L) hp (by rw [e1]; exact hw) ⟨Nat.le_trans hS.1 (by rw [e1]; exact hz), fun q h1 h2 => by
      rw [e1, hk q (Nat.lt_of_lt_of_le h1 hS.1) (fun z => h2 (jAa.mono hS.1 z))]
      exact hS.2.1 q h1 h2, fun q hq => by
      rcases List.mem_append.mp hq with h | h
      · exact hS.2.2 q h
      · exact jAa.mono hS.1 (hL q h)⟩ T' rfl X'
  exact ⟨t2, st t2 a1, b1⟩
end J9
