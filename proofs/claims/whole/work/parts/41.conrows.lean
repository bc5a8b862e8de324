/-! rows for constructors: a growing world, its contract form -/
abbrev jaI (d : Nat → Nat) (N : Nat) : va_E := .inl (d 0, N, .inl (fun _ => nI 0))
abbrev jaZ (d : Nat → Nat) (N : Nat) : va_E := .inl (d 1, N, .inl (fun _ => nI 0))
abbrev jaL (d : Nat → Nat) (N : Nat) : va_E := .inl (d 2, N, .inr (.inl (fun _ => lN 0)))
abbrev jaQ (d : Nat → Nat) (r : Nat → Nat) : va_E := .inl (d 3, 4, .inr (.inr (.inr (.inr (fun i => if i < 4 then some (r i) else none)))))
theorem va_AOA.moved {t : FieldType} {u U : State} (hvm : u.vm.Alike U.vm) (h : va_AOA t u) : va_AOA t U := by
  have h1 : (Cond.arrayOver (.array t)).before #[] (u.setVm U.vm) = true := by rw [Cond.arrayOver_setVmC hvm]; exact h
  exact h1
/-- a constructor: out of the bare object at h0 comes the world W1 u -/
abbrev jCon (l : Launch) (d : Nat → Nat) (D : va_G) (y : MethodName) (b : ByteArray) (mx : Nat) (rm : Room) (h0 : Nat) (av : List Value) (e0 : va_E) (S : Type) (W1 : S → va_W) : Prop :=
  ∀ sz : Nat, Met l y (.code y b mx none :: jT) rm (va_Pc (.ref h0 :: av) (fun U => U.heap.size = sz ∧ (jC d D U ∧ va_AOA .int U) ∧ va_P D jCl [(h0, e0)] U.heap)) (va_Qv (fun _ : S => True) (fun u t => va_P D jCl (W1 u) t.heap ∧ va_D (va_A [(h0, e0)] sz) (W1 u)) (va_A [(h0, e0)] sz)) rm.cells rm.slots (va_A [(h0, e0)] sz)
theorem va_D1 {A : Nat → Prop} {x : Nat × va_E} (h : A x.1) : va_D A [x] := by
  refine ⟨fun i j p q h1 h2 _ => ?_, fun k q hk => ?_⟩
  · have a1 : i < 1 := (List.getElem?_eq_some_iff.mp h1).1
    have a2 : j < 1 := (List.getElem?_eq_some_iff.mp h2).1
    omega
  · have a1 : k < 1 := (List.getElem?_eq_some_iff.mp hk).1
    rw [show k = 0 by omega] at hk
    cases hk
    exact h
theorem va_joinL {A0 : Nat → Prop} {D : va_G} {cl : List vw_C} {ws w1 : va_W} {x : Nat × va_E} {H H1 : Heap} (hP : va_P D cl (ws ++ [x]) H) (hD : va_D A0 (ws ++ [x]))
    (hk : ∀ q : Nat, q < H.size → ¬ va_A [x] H.size q → H1[q]? = H[q]?) (hF : ∀ q, va_A [x] H.size q → A0 q) (hP1 : va_P D cl w1 H1) (hD1 : va_D (va_A [x] H.size) w1) : va_P D cl (ws ++ w1) H1 ∧ va_D A0 (ws ++ w1) := by
  have hx : (ws ++ [x])[ws.length]? = some x := by simp
  have old : ∀ (k : Nat) (q : Nat × va_E), ws[k]? = some q → (ws ++ [x])[k]? = some q := fun k q h => by
    rw [List.getElem?_append_left (List.getElem?_eq_some_iff.mp h).1]; exact h
  have apart : ∀ (k : Nat) (q : Nat × va_E), ws[k]? = some q → q.1 ≠ x.1 ∧ q.1 < H.size := fun k q h => by
    refine ⟨fun e => ?_, (hP k q (old k q h)).lt⟩
    have := hD.1 k ws.length q x (old k q h) hx e
    have hl := (List.getElem?_eq_some_iff.mp h).1
    omega
  have nA : ∀ (k : Nat) (q : Nat × va_E), ws[k]? = some q → ¬ va_A [x] H.size q.1 := fun k q h hA => by
    have ha := apart k q h
    rcases hA with ⟨j, e, hj⟩ | hA
    · have a1 : j < 1 := (List.getElem?_eq_some_iff.mp hj).1
      rw [show j = 0 by omega] at hj
      cases hj
      exact ha.1 rfl
    · omega
  refine ⟨?_, ?_⟩
  · have hP0 : va_P D cl ws H := fun k q h => hP k q (old k q h)
    exact (hP0.kept (fun k q h => hk q.1 (apart k q h).2 (nA k q h))).app hP1
  · have hD0 : va_D A0 ws := ⟨fun i j p q h1 h2 e => hD.1 i j p q (old i p h1) (old j q h2) e, fun k q h => hD.2 k q (old k q h)⟩
    refine va_D.app hD0 ⟨hD1.1, fun k q h => hF _ (hD1.2 k q h)⟩ ?_
    intro i j p q h1 h2 e
    exact nA i p h1 (e ▸ hD1.2 j q h2)
section J41
variable {p : Program} {l : Launch} {e : Env} {R : Room} {s : State} {m : MethodId} {args : Array Value} {below : List Frame} {meth : Method} {c : Code} {H : Heap} {locs : List Loc} {cells slots : Nat} {Q : State → Prop}
variable {cc : ByteArray} {pc : Nat} {ls : Array Slot} {rest : List Value} {d : Nat → Nat} {D : va_G} {mx : Nat} {ret : Option FieldType} {own : String} {H0 : Heap} {A : Nat → Prop} {ws : va_W}
theorem kn_nn {N : Nat} (h : N ≤ 1000) : ¬ nI N < 0 := fun q => by
  have := (kn_sl (x := N) (y := 0) ⟨by omega, by decide⟩).mp q
  omega
theorem j_na (X : jX p s m args meth c cc mx ret own d D) (hP : va_P D jCl ws H) (hD : va_D A ws) (hS : va_S A H0 H locs) (hA : ∀ q, H0.size ≤ q → A q) {N : Nat} (hN : N ≤ 1000) (hc : cells + 1 ≤ R.cells) (hs : slots + N ≤ R.slots) (hdg : decode cc pc = .ok (.newarray .int, 2))
    (kk : ∀ (q : Nat) (H1 : Heap), va_P D jCl (ws ++ [(q, jaI d N)]) H1 → va_D A (ws ++ [(q, jaI d N)]) → va_S A H0 H1 locs → W p l e R s m args below meth c H1 locs (cells + 1) (slots + N) Q (F0 m (pc + 2) ls (.ref q :: rest))) : W p l e R s m args below meth c H locs cells slots Q (F0 m pc ls (.int (nI N) :: rest)) := by
  refine va_newa X.1 X.2.1 (X.2.2.2.2.2.2.1 _ jm_57) (atype := .int) (ty := .int) rfl X.2.2.2.2.2.2.2.1 hP hD hS hA (n := nI N) (N' := N) (a0 := (N, .inl (fun _ => nI 0))) (fun cA => rfl) (kn_nn hN) (nI_clamp (by omega)) (by show N * 4 ≤ _; omega) hc hs hdg (fun q cA H1 hK1 hP1 hD1 hS1 => ?_)
  have e1 : d 0 = cA := Option.some.inj (((X.2.2.2.2.2.2.2.1).2 0 (d 0, .int) rfl).2.symm.trans (hK1.2 4 (cA, .int) rfl).2)
  subst e1
  exact kk q H1 hP1 hD1 hS1
theorem j_nz (X : jX p s m args meth c cc mx ret own d D) (hP : va_P D jCl ws H) (hD : va_D A ws) (hS : va_S A H0 H locs) (hA : ∀ q, H0.size ≤ q → A q) {N : Nat} (hN : N ≤ 1000) (hc : cells + 1 ≤ R.cells) (hs : slots + N ≤ R.slots) (hdg : decode cc pc = .ok (.newarray .boolean, 2))
    (kk : ∀ (q : Nat) (H1 : Heap), va_P D jCl (ws ++ [(q, jaZ d N)]) H1 → va_D A (ws ++ [(q, jaZ d N)]) → va_S A H0 H1 locs → W p l e R s m args below meth c H1 locs (cells + 1) (slots + N) Q (F0 m (pc + 2) ls (.ref q :: rest))) : W p l e R s m args below meth c H locs cells slots Q (F0 m pc ls (.int (nI N) :: rest)) := by
  refine va_newa X.1 X.2.1 (X.2.2.2.2.2.2.1 _ jm_56) (atype := .boolean) (ty := .boolean) rfl X.2.2.2.2.2.2.2.1 hP hD hS hA (n := nI N) (N' := N) (a0 := (N, .inl (fun _ => nI 0))) (fun cA => rfl) (kn_nn hN) (nI_clamp (by omega)) (by show N * 1 ≤ _; omega) hc hs hdg (fun q cA H1 hK1 hP1 hD1 hS1 => ?_)
  have e1 : d 1 = cA := Option.some.inj (((X.2.2.2.2.2.2.2.1).2 1 (d 1, .boolean) rfl).2.symm.trans (hK1.2 4 (cA, .boolean) rfl).2)
  subst e1
  exact kk q H1 hP1 hD1 hS1
theorem j_nl (X : jX p s m args meth c cc mx ret own d D) (hP : va_P D jCl ws H) (hD : va_D A ws) (hS : va_S A H0 H locs) (hA : ∀ q, H0.size ≤ q → A q) {N : Nat} (hN : N ≤ 1000) (hc : cells + 1 ≤ R.cells) (hs : slots + N ≤ R.slots) (hdg : decode cc pc = .ok (.newarray .long, 2))
    (kk : ∀ (q : Nat) (H1 : Heap), va_P D jCl (ws ++ [(q, jaL d N)]) H1 → va_D A (ws ++ [(q, jaL d N)]) → va_S A H0 H1 locs → W p l e R s m args below meth c H1 locs (cells + 1) (slots + N) Q (F0 m (pc + 2) ls (.ref q :: rest))) : W p l e R s m args below meth c H locs cells slots Q (F0 m pc ls (.int (nI N) :: rest)) := by
  refine va_newa X.1 X.2.1 (X.2.2.2.2.2.2.1 _ jm_853) (atype := .long) (ty := .long) rfl X.2.2.2.2.2.2.2.1 hP hD hS hA (n := nI N) (N' := N) (a0 := (N, .inr (.inl (fun _ => lN 0)))) (fun cA => rfl) (kn_nn hN) (nI_clamp (by omega)) (by show N * 8 ≤ _; omega) hc hs hdg (fun q cA H1 hK1 hP1 hD1 hS1 => ?_)
  have e1 : d 2 = cA := Option.some.inj (((X.2.2.2.2.2.2.2.1).2 2 (d 2, .long) rfl).2.symm.trans (hK1.2 4 (cA, .long) rfl).2)
  subst e1
  exact kk q H1 hP1 hD1 hS1
/-- new int[4][128] -/
theorem j_nq (X : jX p s m args meth c cc mx ret own d D) (hAO : va_AOA .int s) (hP : va_P D jCl ws H) (hD : va_D A ws) (hS : va_S A H0 H locs) (hA : ∀ q, H0.size ≤ q → A q) {index : Nat} (hcl : Cond.classLink own index "[[I" ∈ jT) (hc : cells + 5 ≤ R.cells) (hs : slots + 516 ≤ R.slots) (hdg : decode cc pc = .ok (.multianewarray index 2, 4))
    (kk : ∀ (q : Nat) (r : Nat → Nat) (H1 : Heap), va_P D jCl (ws ++ [(q, jaQ d r), (r 0, jaI d 128), (r 1, jaI d 128), (r 2, jaI d 128), (r 3, jaI d 128)]) H1 → va_D A (ws ++ [(q, jaQ d r), (r 0, jaI d 128), (r 1, jaI d 128), (r 2, jaI d 128), (r 3, jaI d 128)]) → va_S A H0 H1 locs → W p l e R s m args below meth c H1 locs (cells + 1 + 4) (slots + 4 + 4 * 128) Q (F0 m (pc + 4) ls (.ref q :: rest))) : W p l e R s m args below meth c H locs cells slots Q (F0 m pc ls (.int (nI 128) :: .int (nI 4) :: rest)) := by
  refine va_mna (X := ws) (L := []) (f := fun _ => jaI d 0) X.1 X.2.1 (ty := .int) (cy := d 0) X.2.2.2.2.2.1 (X.2.2.2.2.2.2.1 _ hcl) hAO (X.2.2.2.2.2.2.1 _ jm_57) ((X.2.2.2.2.2.2.2.1).2 0 (d 0, .int) rfl).2 X.2.2.2.2.2.2.2.1 (by show va_P D jCl (ws ++ []) H; rw [List.append_nil]; exact hP) (by show va_D A (ws ++ []); rw [List.append_nil]; exact hD) hS hA (n := nI 4) (k := nI 128) (N' := 4) (K' := 128) (z := (128, .inl (fun _ => nI 0))) (kn_nn (by decide)) (kn_nn (by decide)) (nI_clamp (by decide)) (nI_clamp (by decide)) (by decide) (by decide) (by decide) rfl rfl (by omega) (by omega) ?_ hdg (fun q r cA H1 hinj hnl hK1 hP1 hD1 hS1 => ?_)
  · intro c9
    exact arrV_new c9 128 (.int (nI 0))
  have e1 : d 3 = cA := Option.some.inj (((X.2.2.2.2.2.2.2.1).2 3 (d 3, .array .int) rfl).2.symm.trans (hK1.2 4 (cA, .array .int) rfl).2)
  subst e1
  rw [← vr_rows (L := []) (fun a _ => List.not_mem_nil)] at hP1 hD1
  exact kk q r H1 (by rw [List.append_assoc] at hP1; exact hP1) (by rw [List.append_assoc] at hD1; exact hD1) hS1
theorem j_new (X : jX p s m args meth c cc mx ret own d D) (hP : va_P D jCl ws H) (hD : va_D A ws) (hS : va_S A H0 H locs) (hA : ∀ q, H0.size ≤ q → A q) {C : String} {T : u_T} {N ci index : Nat} (hin : ∀ w ∈ u_ws C T N, w ∈ jT) (ty : Nat → FieldType) (hty : ∀ k, k < N → parseFieldDescriptor (T k).2.2.1 = some (ty k)) (hcl : Cond.classLink own index C ∈ jT) (hi : Cond.instantiable C N ∈ jT) (hini : Cond.initialized C ∈ jT) (hc0 : jCl[ci]? = some (C, T, N)) {fs : List Value} (hfs : ∀ j, j < N → defaultValue (ty j) = vp_V fs j) (hc : cells + 1 ≤ R.cells) (hs : slots + N ≤ R.slots) (hdg : decode cc pc = .ok (.new index, 3))
    (kk : ∀ (q : Nat) (H1 : Heap), va_P D jCl (ws ++ [(q, .inr (ci, fs))]) H1 → va_D A (ws ++ [(q, .inr (ci, fs))]) → va_S A H0 H1 locs → W p l e R s m args below meth c H1 locs (cells + 1) (slots + N) Q (F0 m (pc + 3) ls (.ref q :: rest))) : W p l e R s m args below meth c H locs cells slots Q (F0 m pc ls rest) :=
  va_new X.1 X.2.1 X.2.2.2.2.2.2.1 hin ty hty X.2.2.2.2.2.1 (X.2.2.2.2.2.2.1 _ hcl) (X.2.2.2.2.2.2.1 _ hi) (X.2.2.2.2.2.2.1 _ hini) X.2.2.2.2.2.2.2.1 hP hD hS hA hc0 hfs hc hs hdg kk
theorem j_oi (X : jX p s m args meth c cc mx ret own d D) {index a : Nat} (hl : Cond.methodLink own index ⟨"java/lang/Object", "<init>", "()V"⟩ ∈ jT) (hls : ls.size = mx) (hdg : decode cc pc = .ok (.invokespecial index, 3)) (hf : 1 ≤ R.frames) (hR : (rest.map fun v => v.category).sum + 12 ≤ R.locals)
    (kk : W p l e R s m args below meth c H locs cells slots Q (F0 m (pc + 3) ls rest)) : W p l e R s m args below meth c H locs cells slots Q (F0 m pc ls (.ref a :: rest)) :=
  W.objInit X.1 X.2.1 X.2.2.2.2.2.1 (X.2.2.2.2.2.2.1 _ hl) (X.2.2.2.2.2.2.1 _ jm_22) (X.2.2.2.2.2.2.1 _ jm_23) rfl (hls.trans X.2.2.1.symm) rfl hdg hf (by show 2 * 0 + _ + 12 ≤ _; omega) kk
theorem j_pf (X : jX p s m args meth c cc mx ret own d D) (hin2 : meth.name = "<init>") {a : Nat} (hP : va_P D jCl ws H) (hD : va_D A ws) (hS : va_S A H0 H locs) {T : u_T} {N ci index : Nat} (q0 k : Nat) {fs : List Value} (he : ws[q0]? = some (a, .inr (ci, fs))) (hc : jCl[ci]? = some (own, T, N)) (hin : ∀ w ∈ u_ws own T N, w ∈ jT) (ty0 : Nat → FieldType) (hty : ∀ k, k < N → parseFieldDescriptor (T k).2.2.1 = some (ty0 k)) (hnm : ∀ a, a < N → ∀ b, b < N → a ≠ b → (T a).2.1 ≠ (T b).2.1) (hk : k < N) (hl : Cond.fieldLink own index (T k).1 (T k).2.1 (T k).2.2.1 ∈ jT) (hfin : (T k).2.2.2 = true) (hdecl : (T k).1 = own) {ty : FieldType} {v : Value} (hd : parseFieldDescriptor (T k).2.2.1 = some ty) (hn : narrow ty v = v) (hfit : fits ty v = true) (hlen : k < fs.length) (hdg : decode cc pc = .ok (.putfield index, 3))
    (kk : ∀ (H1 : Heap) (locs1 : List Loc), va_P D jCl (ws.set q0 (a, .inr (ci, fs.set k v))) H1 → va_D A (ws.set q0 (a, .inr (ci, fs.set k v))) → va_S A H0 H1 locs1 → W p l e R s m args below meth c H1 locs1 cells slots Q (F0 m (pc + 3) ls rest)) : W p l e R s m args below meth c H locs cells slots Q (F0 m pc ls (v :: .ref a :: rest)) :=
  va_putF X.1 X.2.1 X.2.2.2.2.2.2.1 hin ty0 hty hnm X.2.2.2.2.2.1 X.2.2.2.2.2.2.2.1 hP hD hS q0 he hc k hk (X.2.2.2.2.2.2.1 _ hl) (fun _ h => h) hfin hin2 hdecl hd hn hfit hlen hdg kk
theorem j_pn (X : jX p s m args meth c cc mx ret own d D) {a : Nat} (hP : va_P D jCl ws H) (hD : va_D A ws) (hS : va_S A H0 H locs) {T : u_T} {N ci index : Nat} (q0 k : Nat) {fs : List Value} (he : ws[q0]? = some (a, .inr (ci, fs))) (hc : jCl[ci]? = some (own, T, N)) (hin : ∀ w ∈ u_ws own T N, w ∈ jT) (ty0 : Nat → FieldType) (hty : ∀ k, k < N → parseFieldDescriptor (T k).2.2.1 = some (ty0 k)) (hnm : ∀ a, a < N → ∀ b, b < N → a ≠ b → (T a).2.1 ≠ (T b).2.1) (hk : k < N) (hl : Cond.fieldLink own index (T k).1 (T k).2.1 (T k).2.2.1 ∈ jT) (hfin : (T k).2.2.2 = false) {ty : FieldType} {v : Value} (hd : parseFieldDescriptor (T k).2.2.1 = some ty) (hn : narrow ty v = v) (hfit : fits ty v = true) (hlen : k < fs.length) (hdg : decode cc pc = .ok (.putfield index, 3))
    (kk : ∀ (H1 : Heap) (locs1 : List Loc), va_P D jCl (ws.set q0 (a, .inr (ci, fs.set k v))) H1 → va_D A (ws.set q0 (a, .inr (ci, fs.set k v))) → va_S A H0 H1 locs1 → W p l e R s m args below meth c H1 locs1 cells slots Q (F0 m (pc + 3) ls rest)) : W p l e R s m args below meth c H locs cells slots Q (F0 m pc ls (v :: .ref a :: rest)) :=
  va_put X.1 X.2.1 X.2.2.2.2.2.2.1 hin ty0 hty hnm X.2.2.2.2.2.1 X.2.2.2.2.2.2.2.1 hP hD hS q0 he hc k hk (X.2.2.2.2.2.2.1 _ hl) (fun _ h => h) hfin hd hn hfit hlen hdg kk
theorem j_ge (X : jX p s m args meth c cc mx ret own d D) {a : Nat} (hP : va_P D jCl ws H) {T : u_T} {N ci index : Nat} (q0 k : Nat) {fs : List Value} (he : ws[q0]? = some (a, .inr (ci, fs))) (hc : jCl[ci]? = some (own, T, N)) (hin : ∀ w ∈ u_ws own T N, w ∈ jT) (hk : k < N) (hl : Cond.fieldLink own index (T k).1 (T k).2.1 (T k).2.2.1 ∈ jT) {v : Value} (hv : fs[k]? = some v) (hdg : decode cc pc = .ok (.getfield index, 3))
    (kk : W p l e R s m args below meth c H locs cells slots Q (F0 m (pc + 3) ls (v :: rest))) : W p l e R s m args below meth c H locs cells slots Q (F0 m pc ls (.ref a :: rest)) :=
  va_get X.1 X.2.1 X.2.2.2.2.2.2.1 hin X.2.2.2.2.2.1 X.2.2.2.2.2.2.2.1 hP q0 he hc k hk (X.2.2.2.2.2.2.1 _ hl) (fun _ h => h) hv hdg kk
variable {y : MethodName} {bytes : ByteArray} {maxL index h0 : Nat} {rm : Room} {av st0 : List Value} {e0 : va_E} {S : Type} {W1 : S → va_W}
theorem j_pc (X : jX p s m args meth c cc mx ret own d D) (hAO : va_AOA .int s) (hP : va_P D jCl ws H) {av : List Value} : ∀ U : State, U.heap = H → s.WarmedH U.vm → va_Pc av (fun U => U.heap.size = H.size ∧ (jC d D U ∧ va_AOA .int U) ∧ va_P D jCl ws U.heap) av.toArray U := fun U hU hW => ⟨rfl, by rw [hU], ⟨jC.warm hW X.2.2.2.2.2.2.2, va_AOA.moved hW.alike hAO⟩, by rw [hU]; exact hP⟩
theorem jK_b {d : Nat → Nat} {D : va_G} {ws : va_W} {av : List Value} {sz : Nat} : FrameBlind (va_Pc av (fun U => U.heap.size = sz ∧ (jC d D U ∧ va_AOA .int U) ∧ va_P D jCl ws U.heap)) := by
  intro A U f mk h
  exact ⟨h.1, h.2.1, ⟨jC.same (u := U) (U := U.calling f mk A) rfl h.2.2.1.1, va_AOA.moved (u := U) (U := U.calling f mk A) (Vm.Alike.refl U.vm) h.2.2.1.2⟩, h.2.2.2⟩
theorem j_cc (run : va_Run p l e R s m args below meth c H locs cells slots rm.cells rm.slots (F0 m pc ls st0) rest (va_Qv (fun _ : S => True) (fun u t => va_P D jCl (W1 u) t.heap ∧ va_D (va_A [(h0, e0)] H.size) (W1 u)) (va_A [(h0, e0)] H.size) (.ref h0 :: av).toArray) (va_A [(h0, e0)] H.size)) (hP : va_P D jCl (ws ++ [(h0, e0)]) H) (hD : va_D A (ws ++ [(h0, e0)])) (hS : va_S A H0 H locs) (hA : ∀ q, H0.size ≤ q → A q)
    (kk : ∀ (u : S) (H1 : Heap) (locs1 : List Loc), va_P D jCl (ws ++ W1 u) H1 → va_D A (ws ++ W1 u) → va_S A H0 H1 locs1 → W p l e R s m args below meth c H1 locs1 (cells + rm.cells) (slots + rm.slots) Q (F0 m (pc + 3) ls rest)) : W p l e R s m args below meth c H locs cells slots Q (F0 m pc ls st0) := by
  have hF := va_free (wc := [(h0, e0)]) hD hS hA [ws.length] (by simp)
  refine va_callv run hS (fun q _ h => hF q h) hF (fun u t H1 locs1 ht hvm _ hB hz1 hk1 hS1 => ?_)
  obtain ⟨hP1, hD1⟩ := hB
  rw [ht] at hP1
  obtain ⟨hP2, hD2⟩ := va_joinL hP hD hk1 hF hP1 hD1
  exact kk u H1 locs1 hP2 hD2 hS1
theorem j_ccN {host : String} (X : jX p s m args meth c cc mx ret own d D) (hAO : va_AOA .int s) (hM : jCon l d D y bytes maxL rm h0 av e0 S W1) (w1 : Cond.code y bytes maxL none ∈ jT) (w2 : Cond.instanceMethod y ∈ jT) (w4 : Cond.initialized y.cls ∈ jT) (w5 : Cond.methodLinkNest own index y host ∈ jN) (hyn : y.name = "<init>") (hd : jOk y av.length) (hR : rm.frames + 1 ≤ R.frames ∧ 8 + (maxL + 11) + rm.locals ≤ R.locals) (hls : ls.size = mx) (hst : st0 = av.reverse ++ .ref h0 :: rest) (hro : (rest.map fun v => v.category).sum ≤ 8) (hcs : cells + rm.cells ≤ R.cells ∧ slots + rm.slots ≤ R.slots) (hdg : decode cc pc = .ok (.invokespecial index, 3)) (hP : va_P D jCl (ws ++ [(h0, e0)]) H) (hD : va_D A (ws ++ [(h0, e0)])) (hS : va_S A H0 H locs) (hA : ∀ q, H0.size ≤ q → A q)
    (kk : ∀ (u : S) (H1 : Heap) (locs1 : List Loc), va_P D jCl (ws ++ W1 u) H1 → va_D A (ws ++ W1 u) → va_S A H0 H1 locs1 → W p l e R s m args below meth c H1 locs1 (cells + rm.cells) (slots + rm.slots) Q (F0 m (pc + 3) ls rest)) : W p l e R s m args below meth c H locs cells slots Q (F0 m pc ls st0) := by
  have hts := X.2.2.2.2.2.2.1
  have hP1 : va_P D jCl [(h0, e0)] H := fun k q hk => by
    have a1 : k < 1 := (List.getElem?_eq_some_iff.mp hk).1
    rw [show k = 0 by omega] at hk
    exact hP ws.length q (by simpa using hk)
  refine j_cc (va_runIN (Ts := jT) (own := own) (host := host) (n := av.length) (bytes := bytes) (maxL := maxL) ⟨X.1, X.2.1, X.2.2.1, X.2.2.2.2.2.1, hts⟩ (hM H.size) ⟨va_cnB (Ts := jT) av.length hts (fun w h => by
      rcases List.mem_cons.mp h with rfl | h
      · exact ⟨w1, good_of_word (List.mem_filter.mp w1).2⟩
      · exact ⟨h, good_of_word (List.mem_filter.mp h).2⟩) rfl rfl rfl (X.2.2.2.2.2.2.2.2 _ w5) (hts _ w4) hd hR, hyn, hts _ w2⟩ ⟨jK_b, j_pc X hAO hP1⟩ rfl rfl hls hst (lv_room hro) hdg hcs) hP hD hS hA kk
theorem j_ccP (X : jX p s m args meth c cc mx ret own d D) (hAO : va_AOA .int s) (hM : jCon l d D y bytes maxL rm h0 av e0 S W1) (w1 : Cond.code y bytes maxL none ∈ jT) (w2 : Cond.instanceMethod y ∈ jT) (w4 : Cond.initialized y.cls ∈ jT) (w5 : Cond.methodLink own index y ∈ jT) (hyn : y.name = "<init>") (hd : jOk y av.length) (hR : rm.frames + 1 ≤ R.frames ∧ 8 + (maxL + 11) + rm.locals ≤ R.locals) (hls : ls.size = mx) (hst : st0 = av.reverse ++ .ref h0 :: rest) (hro : (rest.map fun v => v.category).sum ≤ 8) (hcs : cells + rm.cells ≤ R.cells ∧ slots + rm.slots ≤ R.slots) (hdg : decode cc pc = .ok (.invokespecial index, 3)) (hP : va_P D jCl (ws ++ [(h0, e0)]) H) (hD : va_D A (ws ++ [(h0, e0)])) (hS : va_S A H0 H locs) (hA : ∀ q, H0.size ≤ q → A q)
    (kk : ∀ (u : S) (H1 : Heap) (locs1 : List Loc), va_P D jCl (ws ++ W1 u) H1 → va_D A (ws ++ W1 u) → va_S A H0 H1 locs1 → W p l e R s m args below meth c H1 locs1 (cells + rm.cells) (slots + rm.slots) Q (F0 m (pc + 3) ls rest)) : W p l e R s m args below meth c H locs cells slots Q (F0 m pc ls st0) := by
  have hts := X.2.2.2.2.2.2.1
  have hP1 : va_P D jCl [(h0, e0)] H := fun k q hk => by
    have a1 : k < 1 := (List.getElem?_eq_some_iff.mp hk).1
    rw [show k = 0 by omega] at hk
    exact hP ws.length q (by simpa using hk)
  refine j_cc (va_runI (Ts := jT) (own := own) (n := av.length) (bytes := bytes) (maxL := maxL) ⟨X.1, X.2.1, X.2.2.1, X.2.2.2.2.2.1, hts⟩ (hM H.size) ⟨callB_of (Ts := jT) av.length hts (fun w h => by
      rcases List.mem_cons.mp h with rfl | h
      · exact ⟨w1, good_of_word (List.mem_filter.mp w1).2⟩
      · exact ⟨h, good_of_word (List.mem_filter.mp h).2⟩) rfl rfl rfl (hts _ w4) (hts _ w5) hd hR, hyn, hts _ w2⟩ ⟨jK_b, j_pc X hAO hP1⟩ rfl rfl hls hst (lv_room hro) hdg hcs) hP hD hS hA kk
end J41
theorem j_con {l : Launch} {d : Nat → Nat} {D : va_G} {y : MethodName} {b : ByteArray} {mx : Nat} {rm : Room} {h0 : Nat} {av : List Value} {e0 : va_E} {S : Type} {W1 : S → va_W} (hy : plainName y.cls = true) (hyn : y.name = "<init>") (hle : (lg_sl (.ref h0 :: av)).length ≤ mx)
    (body : ∀ (p : Program) (e : Env) (s : State) (m : MethodId) (A0 : Array Value) (below : List Frame) (meth : Method) (c : Code) (ls : Array Slot) (Q : State → Prop) (A : Nat → Prop), jX p s m A0 meth c b mx none y.cls d D → va_AOA .int s → meth.name = "<init>" → va_P D jCl [(h0, e0)] s.heap → va_D A [(h0, e0)] → va_S A s.heap s.heap [] → (∀ q, s.heap.size ≤ q → A q) → lv_has ls mx (lv_args 0 (.ref h0 :: av)) →
      (∀ (u : S) (H1 : Heap) (locs1 : List Loc) (pc : Nat) (ls : Array Slot), va_P D jCl (W1 u) H1 → va_D A (W1 u) → va_S A s.heap H1 locs1 → decode b pc = .ok (.return_, 1) → W p l e rm s m A0 below meth c H1 locs1 rm.cells rm.slots Q (F0 m pc ls [])) → W p l e rm s m A0 below meth c s.heap [] 0 0 Q (F0 m 0 ls [])) : jCon l d D y b mx rm h0 av e0 S W1 := by
  intro sz
  refine Met.ofW (cc := b) (maxL := mx) (ret := none) hy rfl ?_
  intro p e s m args below meth c s₁ B hml hv
  obtain ⟨rfl, rfl, ⟨hC, hAO⟩, hP⟩ := hv
  have hts := atoms_spec (ws := (Cond.code y b mx none :: jT)) B.pre
  have hin : meth.name = "<init>" := (name_of_methodNamed B.named B.method).1.trans hyn
  rw [lg_entry_eq]
  exact body p e s m _ below meth c _ _ (va_A [(h0, e0)] s.heap.size) ⟨B.exec, B.bytes, hml, B.returns, B.notSynchronized, findClass_of_methodNamed B.named, fun w h => hts w (List.mem_cons_of_mem _ h), hC⟩ hAO hin hP (va_D1 (Or.inl ⟨0, e0, rfl⟩)) va_S.rf (fun q h => Or.inr h) (lv_entry (.ref h0 :: av) hle)
    (fun u H1 locs1 pc ls hP1 hD1 hS1 hd => W.vret B.exec B.bytes B.returns (fun t ht _ => ⟨⟨u, rfl, trivial, by rw [ht]; exact hP1, hD1⟩, hS1.F ht⟩) hS1.2.2 hd B.notSynchronized)
