/-! rows for the law: its script, its calls of wrappers, its compares; what a turn owes -/
section J47
variable {p : Program} {l : Launch} {e : Env} {R : Room} {s : State} {m : MethodId} {args : Array Value} {below : List Frame} {meth : Method} {c : Code} {H : Heap} {locs : List Loc} {cells slots : Nat} {Q : State → Prop}
variable {cc : ByteArray} {pc : Nat} {ls : Array Slot} {rest : List Value} {d : Nat → Nat} {D : va_G} {a : Nat → Nat} {n : Nat → Nat → Nat} {g : Nat → Nat} {mx : Nat} {ret : Option FieldType} {own : String} {H0 : Heap}
theorem kn_isl {x : Int64} {y : Nat} (h : x = lN y) (k : W p l e R s m args below meth c H locs cells slots Q (F0 m pc ls (.long (lN y) :: rest))) : W p l e R s m args below meth c H locs cells slots Q (F0 m pc ls (.long x :: rest)) := by rw [h]; exact k
theorem kn_leq (hx : p.tables.exec = Jvm.exec) (hb : c.code = cc) {x y : Nat} {off : Int} {tgt : Nat} (hd0 : decode cc pc = .ok (.lcmp, 1)) (hdg : decode cc (pc + 1) = .ok (.ifCond .eq off, 3)) (ht : ((pc + 1 : Nat) : Int) + off = (tgt : Int)) (h : x = y)
    (kt : W p l e R s m args below meth c H locs cells slots Q (F0 m tgt ls rest)) : W p l e R s m args below meth c H locs cells slots Q (F0 m pc ls (.long (lN y) :: .long (lN x) :: rest)) :=
  W.lcmp hx hb hd0 (lv_if_eq hx hb hdg ht (fun _ => kt) (fun z => absurd ((lg_cmp_eq _ _).mpr (by rw [h])) z))
theorem kn_lgt {L t : Nat} (hL : L ≤ 3584) (ht : t ≤ 4000) : nI L - nI 7 < nI t ↔ L < t + 7 := by
  rw [kn_subw (by decide), Int32.lt_iff_toInt_lt, kn_toInt (Nat.mod_lt _ (by decide)), kn_toInt (by omega)]
  split <;> split <;> omega
theorem j_sld (X : jX p s m args meth c cc mx ret own d D) {b L : Nat} {sc : Nat → Nat} (hX : va_X b L (fun j => nI (sc j)) s H0) (hbl : b < H0.size) {A : Nat → Prop} (hbA : ¬ A b) (hS : va_S A H0 H locs) (k : Nat) (hk : k < L) (hL : L ≤ 3584) (hdg : decode cc pc = .ok (.iaload, 1))
    (kk : W p l e R s m args below meth c H locs cells slots Q (F0 m (pc + 1) ls (.int (nI (sc k)) :: rest))) : W p l e R s m args below meth c H locs cells slots Q (F0 m pc ls (.int (nI k) :: .ref b :: rest)) := by
  refine va_sld X.1 X.2.1 hX hbl hbA hS (i := nI k) (vp_in_nI hk (by omega)) hdg ?_
  rw [nI_clamp (by omega)]
  exact kk
variable {y : MethodName} {bytes : ByteArray} {maxL index : Nat} {hh : List (Nat × Nat × Nat × Nat)} {rm : Room} {As st0 : List Value} {post : Option Value → (Nat → Nat → Nat) → (Nat → Nat) → Prop}
theorem j_mkW (X : jX p s m args meth c cc mx ret own d D) (hP : va_P D jCl (jW d a n g) H) (hJ : jS (fun _ => False) s H) (hN : jNc s) (hM : jWr l d D a n g y bytes maxL hh rm As post) (w1 : Cond.codeWith y bytes maxL (some .int) hh ∈ jT) (w2 : Cond.static y ∈ jT) (w4 : Cond.initialized y.cls ∈ jT) (w5 : Cond.methodLink own index y ∈ jT)
    (hd : jOk y As.length) (hR : rm.frames + 1 ≤ R.frames ∧ 8 + (maxL + 11) + rm.locals ≤ R.locals) (hz : rm.cells = 1 ∧ rm.slots = 6) (hls : ls.size = mx) (hst : st0 = As.reverse ++ rest) (hro : (rest.map fun v => v.category).sum ≤ 8) (hcs : cells + 1 ≤ R.cells ∧ slots + 6 ≤ R.slots) (hdg : decode cc pc = .ok (.invokestatic index, 3)) :
    va_Run p l e R s m args below meth c H locs cells slots 1 6 (F0 m pc ls st0) rest (jQE post d D a H.size As.toArray) (jAa a H.size) := by
  have hts := X.2.2.2.2.2.2.1
  refine vx_runSW (Ts := jT) (own := own) (n := As.length) (bytes := bytes) (maxL := maxL) (ret := some .int) (hh := hh) ⟨X.1, X.2.1, X.2.2.1, X.2.2.2.2.2.1, hts⟩ (hM H.size) (vx_cwSW (Ts := jT) As.length hts (fun w h => ?_) rfl hz.1 hz.2 hd hR) ⟨jw_b, fun U hU hW => ⟨rfl, by rw [hU], ⟨jC.warm hW X.2.2.2.2.2.2.2, by rw [hU]; exact hP⟩, by rw [hU]; exact jS.warm hW hJ, jNc.moved hW.alike hN⟩⟩ rfl rfl hls hst (lv_room hro) hdg hcs
  have hm : w ∈ jT := by
    unfold va_wsS at h
    rcases List.mem_append.mp h with h | h
    · simp only [List.mem_cons, List.not_mem_nil, or_false] at h
      rcases h with rfl | rfl | rfl
      · exact w5
      · exact w2
      · exact w4
    · rcases List.mem_cons.mp h with rfl | h
      · exact w1
      · exact h
  exact ⟨hm, good_of_word (List.mem_filter.mp hm).2⟩
theorem j_runw {av : Array Value} (hr : va_Run p l e R s m args below meth c H locs cells slots 1 6 (F0 m pc ls st0) rest (jQE post d D a H.size av) (jAa a H.size)) (hS : va_S (jAa a H0.size) H0 H locs)
    (kk : ∀ (v : Option Value) (n2 : Nat → Nat → Nat) (g2 : Nat → Nat) (H1 : Heap) (locs1 : List Loc), post v n2 g2 → va_P D jCl (jW d a n2 g2) H1 → va_S (jAa a H0.size) H0 H1 locs1 → W p l e R s m args below meth c H1 locs1 (cells + 1) (slots + 6) Q (F0 m (pc + 3) ls (v.toList ++ rest))) : W p l e R s m args below meth c H locs cells slots Q (F0 m pc ls st0) := by
  intro T hT X
  obtain ⟨v', st₀, t, T', L, h0, X', hL, e1, e2, ⟨⟨v, n2, g2, hv, hp, hw⟩, hz, hk⟩, st⟩ := hr T hT X
  cases hv
  rw [h0] at hz hk
  obtain ⟨t2, a1, b1⟩ := kk v' n2 g2 T'.heap (locs ++ L) hp (by rw [e1]; exact hw) ⟨Nat.le_trans hS.1 (by rw [e1]; exact hz), fun q h1 h2 => by
      rw [e1, hk q (Nat.lt_of_lt_of_le h1 hS.1) (fun z => h2 (jAa.mono hS.1 z))]
      exact hS.2.1 q h1 h2, fun q hq => by
      rcases List.mem_append.mp hq with h | h
      · exact hS.2.2 q h
      · exact jAa.mono hS.1 (hL q h)⟩ T' rfl X'
  exact ⟨t2, st t2 a1, b1⟩
end J47
abbrev rmW : Room := { frames := 7, cells := 1, slots := 6, locals := 200 }
def rmS (rm : Room) : Prop := rm.frames ≤ 6 ∧ rm.locals ≤ 150 ∧ rm.cells = 0 ∧ rm.slots = 0
/-- what a turn over a wrapped call owes -/
def TB (I : (Nat → Nat → Nat) → (Nat → Nat) → Prop) (l : Launch) (d : Nat → Nat) (D : va_G) (a : Nat → Nat) (n : Nat → Nat → Nat) (g : Nat → Nat) (y : MethodName) (b : ByteArray) (mx : Nat) (hh : List (Nat × Nat × Nat × Nat)) (av : List Value) (yM : MethodName) (bM : ByteArray) (mM : Nat) (aM : List Value) : Prop :=
  ∃ (k w : Nat) (n1 : Nat → Nat → Nat) (g1 : Nat → Nat) (n2 : Nat → Nat → Nat) (g2 : Nat → Nat) (rm : Room), jWr l d D a n g y b mx hh rmW av (fun v9 m2 h2 => some (.int (nI k)) = v9 ∧ n1 = m2 ∧ g1 = h2) ∧ rmS rm ∧ jEff l d D a n1 g1 yM bM mM (some .int) rm aM (fun v9 m2 h2 => some (.int (nI w)) = v9 ∧ n2 = m2 ∧ g2 = h2) ∧ k < 4 ∧ n2 33 0 = k ∧ (k = 0 → g2 2 = w ∧ w < 2147483648) ∧ I n2 g2
/-- what a turn over a plain call owes -/
def TP (I : (Nat → Nat → Nat) → (Nat → Nat) → Prop) (l : Launch) (d : Nat → Nat) (D : va_G) (a : Nat → Nat) (n : Nat → Nat → Nat) (g : Nat → Nat) (rt : Option FieldType) (y : MethodName) (b : ByteArray) (mx : Nat) (av : List Value) (yM : MethodName) (bM : ByteArray) (mM : Nat) (aM : List Value) : Prop :=
  ∃ (v : Nat) (n2 : Nat → Nat → Nat) (g2 : Nat → Nat) (rK rm : Room), rmS rK ∧ jPure l d D a n g y b mx rt rK av (some (.int (nI v))) ∧ rmS rm ∧ jEff l d D a n g yM bM mM rt rm aM (fun v9 m2 h2 => some (.int (nI v)) = v9 ∧ n2 = m2 ∧ g2 = h2) ∧ v < 4294967296 ∧ I n2 g2
