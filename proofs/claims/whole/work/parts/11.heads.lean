/-! heads of walks: the end's law stands as a hypothesis hQ, so that loops needn't name it -/
theorem jq_I {l : Launch} {d : Nat → Nat} {D : va_G} {a : Nat → Nat} {n : Nat → Nat → Nat} {g : Nat → Nat} {y : MethodName} {b : ByteArray} {mx : Nat} {rm : Room} {av : List Value} {x : Nat} (hy : plainName y.cls = true) (hle : (lg_sl av).length ≤ mx)
    (body : ∀ (p : Program) (e : Env) (s : State) (m : MethodId) (A : Array Value) (below : List Frame) (meth : Method) (c : Code) (ls : Array Slot) (Q : State → Prop), jX p s m A meth c b mx (some .int) y.cls d D → va_P D jCl (jW d a n g) s.heap → lv_has ls mx (lv_args 0 av) →
      (∀ (pc : Nat) (ls : Array Slot), decode b pc = .ok (.ireturn, 1) → W p l e rm s m A below meth c s.heap [] 0 0 Q (F0 m pc ls [.int (nI x)])) → W p l e rm s m A below meth c s.heap [] 0 0 Q (F0 m 0 ls [])) : jPure l d D a n g y b mx (some .int) rm av (some (.int (nI x))) :=
  j_pure hy hle fun p e s m below meth c ls X hP hl => body p e s m _ below meth c ls _ X hP hl fun pc ls hd => W.iret X.1 X.2.1 X.2.2.2.1 (fun t ht _ => ⟨rfl, ht⟩) (fun _ h => by cases h) hd X.2.2.2.2.1
theorem jq_Z {l : Launch} {d : Nat → Nat} {D : va_G} {a : Nat → Nat} {n : Nat → Nat → Nat} {g : Nat → Nat} {y : MethodName} {b : ByteArray} {mx : Nat} {rm : Room} {av : List Value} {x : Nat} (hx2 : x < 2) (hy : plainName y.cls = true) (hle : (lg_sl av).length ≤ mx)
    (body : ∀ (p : Program) (e : Env) (s : State) (m : MethodId) (A : Array Value) (below : List Frame) (meth : Method) (c : Code) (ls : Array Slot) (Q : State → Prop), jX p s m A meth c b mx (some .boolean) y.cls d D → va_P D jCl (jW d a n g) s.heap → lv_has ls mx (lv_args 0 av) →
      (∀ (pc : Nat) (ls : Array Slot), decode b pc = .ok (.ireturn, 1) → W p l e rm s m A below meth c s.heap [] 0 0 Q (F0 m pc ls [.int (nI x)])) → W p l e rm s m A below meth c s.heap [] 0 0 Q (F0 m 0 ls [])) : jPure l d D a n g y b mx (some .boolean) rm av (some (.int (nI x))) :=
  j_pure hy hle fun p e s m below meth c ls X hP hl => body p e s m _ below meth c ls _ X hP hl fun pc ls hd => W.zret X.1 X.2.1 X.2.2.2.1 (jnz hx2) (fun t ht _ => ⟨rfl, ht⟩) (fun _ h => by cases h) hd X.2.2.2.2.1
theorem jq_A {l : Launch} {d : Nat → Nat} {D : va_G} {a : Nat → Nat} {n : Nat → Nat → Nat} {g : Nat → Nat} {y : MethodName} {b : ByteArray} {mx : Nat} {rm : Room} {av : List Value} {x : Nat} {C : String} (hy : plainName y.cls = true) (hle : (lg_sl av).length ≤ mx)
    (body : ∀ (p : Program) (e : Env) (s : State) (m : MethodId) (A : Array Value) (below : List Frame) (meth : Method) (c : Code) (ls : Array Slot) (Q : State → Prop), jX p s m A meth c b mx (some (.object C)) y.cls d D → va_P D jCl (jW d a n g) s.heap → lv_has ls mx (lv_args 0 av) →
      (∀ (pc : Nat) (ls : Array Slot), decode b pc = .ok (.areturn, 1) → W p l e rm s m A below meth c s.heap [] 0 0 Q (F0 m pc ls [.ref x])) → W p l e rm s m A below meth c s.heap [] 0 0 Q (F0 m 0 ls [])) : jPure l d D a n g y b mx (some (.object C)) rm av (some (.ref x)) :=
  j_pure hy hle fun p e s m below meth c ls X hP hl => body p e s m _ below meth c ls _ X hP hl fun pc ls hd => W.aret X.1 X.2.1 X.2.2.2.1 (Or.inl ⟨C, rfl⟩) (Or.inr ⟨x, rfl⟩) (fun t ht _ => ⟨rfl, ht⟩) (fun _ h => by cases h) hd X.2.2.2.2.1
theorem je_I {l : Launch} {d : Nat → Nat} {D : va_G} {a : Nat → Nat} {n : Nat → Nat → Nat} {g : Nat → Nat} {y : MethodName} {b : ByteArray} {mx : Nat} {rm : Room} {av : List Value} {post : Option Value → (Nat → Nat → Nat) → (Nat → Nat) → Prop} (hy : plainName y.cls = true) (hle : (lg_sl av).length ≤ mx)
    (body : ∀ (p : Program) (e : Env) (s : State) (m : MethodId) (A : Array Value) (below : List Frame) (meth : Method) (c : Code) (ls : Array Slot) (Q : State → Prop), jX p s m A meth c b mx (some .int) y.cls d D → va_P D jCl (jW d a n g) s.heap → va_S (jAa a s.heap.size) s.heap s.heap [] → lv_has ls mx (lv_args 0 av) →
      (∀ (x : Nat) (n2 : Nat → Nat → Nat) (g2 : Nat → Nat) (H1 : Heap) (locs1 : List Loc) (pc : Nat) (ls : Array Slot), post (some (.int (nI x))) n2 g2 → va_P D jCl (jW d a n2 g2) H1 → va_S (jAa a s.heap.size) s.heap H1 locs1 → decode b pc = .ok (.ireturn, 1) → W p l e rm s m A below meth c H1 locs1 0 0 Q (F0 m pc ls [.int (nI x)])) → W p l e rm s m A below meth c s.heap [] 0 0 Q (F0 m 0 ls [])) : jEff l d D a n g y b mx (some .int) rm av post :=
  j_eff hy hle fun p e s m below meth c ls X hP hl => body p e s m _ below meth c ls _ X hP va_S.rf hl fun x n2 g2 H1 locs1 pc ls hp hP1 hS hd => W.iret X.1 X.2.1 X.2.2.2.1 (fun t ht _ => ⟨⟨_, n2, g2, rfl, hp, by rw [ht]; exact hP1⟩, hS.F ht⟩) hS.2.2 hd X.2.2.2.2.1
theorem je_Z {l : Launch} {d : Nat → Nat} {D : va_G} {a : Nat → Nat} {n : Nat → Nat → Nat} {g : Nat → Nat} {y : MethodName} {b : ByteArray} {mx : Nat} {rm : Room} {av : List Value} {post : Option Value → (Nat → Nat → Nat) → (Nat → Nat) → Prop} (hy : plainName y.cls = true) (hle : (lg_sl av).length ≤ mx)
    (body : ∀ (p : Program) (e : Env) (s : State) (m : MethodId) (A : Array Value) (below : List Frame) (meth : Method) (c : Code) (ls : Array Slot) (Q : State → Prop), jX p s m A meth c b mx (some .boolean) y.cls d D → va_P D jCl (jW d a n g) s.heap → va_S (jAa a s.heap.size) s.heap s.heap [] → lv_has ls mx (lv_args 0 av) →
      (∀ (x : Nat) (n2 : Nat → Nat → Nat) (g2 : Nat → Nat) (H1 : Heap) (locs1 : List Loc) (pc : Nat) (ls : Array Slot), x < 2 → post (some (.int (nI x))) n2 g2 → va_P D jCl (jW d a n2 g2) H1 → va_S (jAa a s.heap.size) s.heap H1 locs1 → decode b pc = .ok (.ireturn, 1) → W p l e rm s m A below meth c H1 locs1 0 0 Q (F0 m pc ls [.int (nI x)])) → W p l e rm s m A below meth c s.heap [] 0 0 Q (F0 m 0 ls [])) : jEff l d D a n g y b mx (some .boolean) rm av post :=
  j_eff hy hle fun p e s m below meth c ls X hP hl => body p e s m _ below meth c ls _ X hP va_S.rf hl fun x n2 g2 H1 locs1 pc ls hx2 hp hP1 hS hd => W.zret X.1 X.2.1 X.2.2.2.1 (jnz hx2) (fun t ht _ => ⟨⟨_, n2, g2, rfl, hp, by rw [ht]; exact hP1⟩, hS.F ht⟩) hS.2.2 hd X.2.2.2.2.1
theorem je_V {l : Launch} {d : Nat → Nat} {D : va_G} {a : Nat → Nat} {n : Nat → Nat → Nat} {g : Nat → Nat} {y : MethodName} {b : ByteArray} {mx : Nat} {rm : Room} {av : List Value} {post : Option Value → (Nat → Nat → Nat) → (Nat → Nat) → Prop} (hy : plainName y.cls = true) (hle : (lg_sl av).length ≤ mx)
    (body : ∀ (p : Program) (e : Env) (s : State) (m : MethodId) (A : Array Value) (below : List Frame) (meth : Method) (c : Code) (ls : Array Slot) (Q : State → Prop), jX p s m A meth c b mx none y.cls d D → va_P D jCl (jW d a n g) s.heap → va_S (jAa a s.heap.size) s.heap s.heap [] → lv_has ls mx (lv_args 0 av) →
      (∀ (n2 : Nat → Nat → Nat) (g2 : Nat → Nat) (H1 : Heap) (locs1 : List Loc) (pc : Nat) (ls : Array Slot), post none n2 g2 → va_P D jCl (jW d a n2 g2) H1 → va_S (jAa a s.heap.size) s.heap H1 locs1 → decode b pc = .ok (.return_, 1) → W p l e rm s m A below meth c H1 locs1 0 0 Q (F0 m pc ls [])) → W p l e rm s m A below meth c s.heap [] 0 0 Q (F0 m 0 ls [])) : jEff l d D a n g y b mx none rm av post :=
  j_eff hy hle fun p e s m below meth c ls X hP hl => body p e s m _ below meth c ls _ X hP va_S.rf hl fun n2 g2 H1 locs1 pc ls hp hP1 hS hd => W.vret X.1 X.2.1 X.2.2.2.1 (fun t ht _ => ⟨⟨_, n2, g2, rfl, hp, by rw [ht]; exact hP1⟩, hS.F ht⟩) hS.2.2 hd X.2.2.2.2.1
theorem kn_inc (x : Nat) : nI x + Int32.ofInt 1 = nI (x + 1) := by
  have h : Int32.ofInt 1 = nI 1 := by decide
  rw [h, nI_add]
theorem kn_dec {x : Nat} (h : 0 < x) : nI x + Int32.ofInt (-1) = nI (x - 1) := by
  have h1 : Int32.ofInt (-1) = (-1 : Int32) := by decide
  rw [h1]
  exact sb_m1 h
theorem kn_inc16 (x : Nat) : nI x + Int32.ofInt 16 = nI (x + 16) := by
  have h : Int32.ofInt 16 = nI 16 := by decide
  rw [h, nI_add]
theorem kn_inc7 (x : Nat) : nI x + Int32.ofInt 7 = nI (x + 7) := by
  have h : Int32.ofInt 7 = nI 7 := by decide
  rw [h, nI_add]
theorem kn_sl {x y : Nat} (h : x < 4294967296 ∧ y < 2147483648) : nI x < nI y ↔ (2147483648 ≤ x ∨ x < y) := by
  rw [Int32.lt_iff_toInt_lt, kn_toInt h.1, kn_toInt (by omega)]
  split <;> split <;> omega
theorem kn_sr {x y : Nat} (h : x < 4294967296 ∧ y < 2147483648) : nI y ≤ nI x ↔ (x < 2147483648 ∧ y ≤ x) := by
  rw [Int32.le_iff_toInt_le, kn_toInt h.1, kn_toInt (by omega)]
  split <;> split <;> omega
theorem kn_st {x y : Nat} (h : x < 4294967296 ∧ y < 2147483648) : nI y < nI x ↔ (x < 2147483648 ∧ y < x) := by
  rw [Int32.lt_iff_toInt_lt, kn_toInt h.1, kn_toInt (by omega)]
  split <;> split <;> omega
theorem kn_su {x y : Nat} (h : x < 4294967296 ∧ y < 2147483648) : nI x ≤ nI y ↔ (2147483648 ≤ x ∨ x ≤ y) := by
  rw [Int32.le_iff_toInt_le, kn_toInt h.1, kn_toInt (by omega)]
  split <;> split <;> omega
section KX
variable {p : Program} {l : Launch} {e : Env} {R : Room} {s : State} {m : MethodId} {args : Array Value} {below : List Frame} {meth : Method} {c : Code} {H : Heap} {locs : List Loc} {cells slots : Nat} {Q : State → Prop}
variable {cc : ByteArray} {pc : Nat} {ls : Array Slot} {rest : List Value}
theorem kn_xlt (hx : p.tables.exec = Jvm.exec) (hb : c.code = cc) {x y : Nat} {off : Int} {tgt : Nat} (hdg : decode cc pc = .ok (.if_icmp .lt off, 3)) (ht : (pc : Int) + off = (tgt : Int)) (h : x < 4294967296 ∧ y < 2147483648)
    (kt : (2147483648 ≤ x ∨ x < y) → W p l e R s m args below meth c H locs cells slots Q (F0 m tgt ls rest)) (kf : (x < 2147483648 ∧ y ≤ x) → W p l e R s m args below meth c H locs cells slots Q (F0 m (pc + 3) ls rest)) : W p l e R s m args below meth c H locs cells slots Q (F0 m pc ls (.int (nI y) :: .int (nI x) :: rest)) :=
  lv_icmp_lt hx hb hdg ht (fun z => kt ((kn_sl h).mp z)) (fun z => kf (by have hz := mt (kn_sl h).mpr z; omega))
theorem kn_xge (hx : p.tables.exec = Jvm.exec) (hb : c.code = cc) {x y : Nat} {off : Int} {tgt : Nat} (hdg : decode cc pc = .ok (.if_icmp .ge off, 3)) (ht : (pc : Int) + off = (tgt : Int)) (h : x < 4294967296 ∧ y < 2147483648)
    (kt : (x < 2147483648 ∧ y ≤ x) → W p l e R s m args below meth c H locs cells slots Q (F0 m tgt ls rest)) (kf : (2147483648 ≤ x ∨ x < y) → W p l e R s m args below meth c H locs cells slots Q (F0 m (pc + 3) ls rest)) : W p l e R s m args below meth c H locs cells slots Q (F0 m pc ls (.int (nI y) :: .int (nI x) :: rest)) :=
  lv_icmp_ge hx hb hdg ht (fun z => kt ((kn_sr h).mp z)) (fun z => kf (by have hz := mt (kn_sr h).mpr z; omega))
theorem kn_xgt (hx : p.tables.exec = Jvm.exec) (hb : c.code = cc) {x y : Nat} {off : Int} {tgt : Nat} (hdg : decode cc pc = .ok (.if_icmp .gt off, 3)) (ht : (pc : Int) + off = (tgt : Int)) (h : x < 4294967296 ∧ y < 2147483648)
    (kt : (x < 2147483648 ∧ y < x) → W p l e R s m args below meth c H locs cells slots Q (F0 m tgt ls rest)) (kf : (2147483648 ≤ x ∨ x ≤ y) → W p l e R s m args below meth c H locs cells slots Q (F0 m (pc + 3) ls rest)) : W p l e R s m args below meth c H locs cells slots Q (F0 m pc ls (.int (nI y) :: .int (nI x) :: rest)) :=
  lv_icmp_gt hx hb hdg ht (fun z => kt ((kn_st h).mp z)) (fun z => kf (by have hz := mt (kn_st h).mpr z; omega))
theorem kn_xle (hx : p.tables.exec = Jvm.exec) (hb : c.code = cc) {x y : Nat} {off : Int} {tgt : Nat} (hdg : decode cc pc = .ok (.if_icmp .le off, 3)) (ht : (pc : Int) + off = (tgt : Int)) (h : x < 4294967296 ∧ y < 2147483648)
    (kt : (2147483648 ≤ x ∨ x ≤ y) → W p l e R s m args below meth c H locs cells slots Q (F0 m tgt ls rest)) (kf : (x < 2147483648 ∧ y < x) → W p l e R s m args below meth c H locs cells slots Q (F0 m (pc + 3) ls rest)) : W p l e R s m args below meth c H locs cells slots Q (F0 m pc ls (.int (nI y) :: .int (nI x) :: rest)) :=
  lv_icmp_le hx hb hdg ht (fun z => kt ((kn_su h).mp z)) (fun z => kf (by have hz := mt (kn_su h).mpr z; omega))
theorem kn_lt0 (hx : p.tables.exec = Jvm.exec) (hb : c.code = cc) {x : Nat} {off : Int} {tgt : Nat} (hdg : decode cc pc = .ok (.ifCond .lt off, 3)) (ht : (pc : Int) + off = (tgt : Int)) (h : x < 4294967296)
    (kt : 2147483648 ≤ x → W p l e R s m args below meth c H locs cells slots Q (F0 m tgt ls rest)) (kf : x < 2147483648 → W p l e R s m args below meth c H locs cells slots Q (F0 m (pc + 3) ls rest)) : W p l e R s m args below meth c H locs cells slots Q (F0 m pc ls (.int (nI x) :: rest)) :=
  lv_if_lt hx hb hdg ht (fun z => kt (by have := (kn_sl (y := 0) ⟨h, by decide⟩).mp z; omega)) (fun z => kf (by have hz := mt (kn_sl (y := 0) ⟨h, by decide⟩).mpr z; omega))
theorem kn_ge0 (hx : p.tables.exec = Jvm.exec) (hb : c.code = cc) {x : Nat} {off : Int} {tgt : Nat} (hdg : decode cc pc = .ok (.ifCond .ge off, 3)) (ht : (pc : Int) + off = (tgt : Int)) (h : x < 4294967296)
    (kt : x < 2147483648 → W p l e R s m args below meth c H locs cells slots Q (F0 m tgt ls rest)) (kf : 2147483648 ≤ x → W p l e R s m args below meth c H locs cells slots Q (F0 m (pc + 3) ls rest)) : W p l e R s m args below meth c H locs cells slots Q (F0 m pc ls (.int (nI x) :: rest)) :=
  lv_if_ge hx hb hdg ht (fun z => kt (by have := (kn_sr (y := 0) ⟨h, by decide⟩).mp z; omega)) (fun z => kf (by have hz := mt (kn_sr (y := 0) ⟨h, by decide⟩).mpr z; omega))
theorem kn_gt0 (hx : p.tables.exec = Jvm.exec) (hb : c.code = cc) {x : Nat} {off : Int} {tgt : Nat} (hdg : decode cc pc = .ok (.ifCond .gt off, 3)) (ht : (pc : Int) + off = (tgt : Int)) (h : x < 4294967296)
    (kt : (x < 2147483648 ∧ 0 < x) → W p l e R s m args below meth c H locs cells slots Q (F0 m tgt ls rest)) (kf : (2147483648 ≤ x ∨ x = 0) → W p l e R s m args below meth c H locs cells slots Q (F0 m (pc + 3) ls rest)) : W p l e R s m args below meth c H locs cells slots Q (F0 m pc ls (.int (nI x) :: rest)) :=
  lv_if_gt hx hb hdg ht (fun z => kt (by have := (kn_st (y := 0) ⟨h, by decide⟩).mp z; omega)) (fun z => kf (by have hz := mt (kn_st (y := 0) ⟨h, by decide⟩).mpr z; omega))
theorem kn_le0 (hx : p.tables.exec = Jvm.exec) (hb : c.code = cc) {x : Nat} {off : Int} {tgt : Nat} (hdg : decode cc pc = .ok (.ifCond .le off, 3)) (ht : (pc : Int) + off = (tgt : Int)) (h : x < 4294967296)
    (kt : (2147483648 ≤ x ∨ x = 0) → W p l e R s m args below meth c H locs cells slots Q (F0 m tgt ls rest)) (kf : (x < 2147483648 ∧ 0 < x) → W p l e R s m args below meth c H locs cells slots Q (F0 m (pc + 3) ls rest)) : W p l e R s m args below meth c H locs cells slots Q (F0 m pc ls (.int (nI x) :: rest)) :=
  lv_if_le hx hb hdg ht (fun z => kt (by have := (kn_su (y := 0) ⟨h, by decide⟩).mp z; omega)) (fun z => kf (by have hz := mt (kn_su (y := 0) ⟨h, by decide⟩).mpr z; omega))
end KX
theorem kn_s31 : ∀ k, k < 32 → ((nI k &&& 31).toBitVec.smod 32).toNat = k := by decide
theorem kn_u31 : ∀ k, k < 32 → (((nI k).toUInt32 &&& Int32.toUInt32 31).toBitVec % 32).toNat = k := by decide
theorem kn_shl {x q : Nat} (hq : q < 4) (hx : x < 65536) : nI x <<< (nI q &&& 31) = nI (x * 2 ^ q) := by
  refine pk_shlN _ q (kn_s31 q (by omega)) ?_
  rcases (show q = 0 ∨ q = 1 ∨ q = 2 ∨ q = 3 by omega) with rfl | rfl | rfl | rfl <;> omega
theorem kn_bit {x k : Nat} (hx : x < 4294967296) (hk : k < 32) : (((nI x).toUInt32 >>> ((nI k).toUInt32 &&& Int32.toUInt32 31)).toInt32) = nI (x / 2 ^ k) := pk_ushrN hx _ k (kn_u31 k hk)
