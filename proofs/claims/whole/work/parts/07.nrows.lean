/-- Int32 by numbers: all of them -/
theorem kn_of (x : Int32) : ∃ k : Nat, k < 4294967296 ∧ x = nI k := ⟨x.toBitVec.toNat, x.toBitVec.isLt, by
  apply Int32.toBitVec_inj.mp
  show x.toBitVec = (Int32.ofNat x.toBitVec.toNat).toBitVec
  rw [Int32.toBitVec_ofNat']
  simp⟩
theorem kn_bv (k : Nat) : (nI k).toBitVec = BitVec.ofNat 32 k := by
  show (Int32.ofNat k).toBitVec = _
  rw [Int32.toBitVec_ofNat']
theorem kn_inj {x y : Int32} (h : x.toBitVec = y.toBitVec) : x = y := Int32.toBitVec_inj.mp h
theorem kn_eq {a b : Nat} (ha : a < 4294967296) (hb : b < 4294967296) : nI a = nI b ↔ a = b := by
  constructor
  · intro h
    have h1 := congrArg (fun z : Int32 => z.toBitVec.toNat) h
    simp only [kn_bv, BitVec.toNat_ofNat] at h1
    omega
  · intro h; rw [h]
theorem kn_xor (a b : Nat) : nI a ^^^ nI b = nI (a ^^^ b) := by
  apply kn_inj
  rw [Int32.toBitVec_xor, kn_bv, kn_bv, kn_bv]
  apply BitVec.eq_of_toNat_eq
  simp [BitVec.toNat_xor, Nat.xor_mod_two_pow]
theorem kn_and (a b : Nat) : nI a &&& nI b = nI (a &&& b) := by
  apply kn_inj
  rw [Int32.toBitVec_and, kn_bv, kn_bv, kn_bv]
  apply BitVec.eq_of_toNat_eq
  simp [BitVec.toNat_and, Nat.and_mod_two_pow]
theorem kn_or (a b : Nat) : nI a ||| nI b = nI (a ||| b) := by
  apply kn_inj
  rw [Int32.toBitVec_or, kn_bv, kn_bv, kn_bv]
  apply BitVec.eq_of_toNat_eq
  simp [BitVec.toNat_or, Nat.or_mod_two_pow]
theorem kn_m1 : (nI 4294967295) = (-1 : Int32) := by decide
theorem kn_toInt {a : Nat} (h : a < 4294967296) : (nI a).toInt = if a < 2147483648 then (a : Int) else (a : Int) - 4294967296 := by
  have : (nI a).toInt = (nI a).toBitVec.toInt := rfl
  rw [this, kn_bv, BitVec.toInt_eq_toNat_cond]
  simp only [BitVec.toNat_ofNat]
  rw [Nat.mod_eq_of_lt h]
  split <;> split <;> omega
section KN
variable {p : Program} {l : Launch} {e : Env} {R : Room} {s : State} {m : MethodId} {args : Array Value} {below : List Frame} {meth : Method} {c : Code} {H : Heap} {locs : List Loc} {cells slots : Nat} {Q : State → Prop}
variable {cc : ByteArray} {pc : Nat} {ls : Array Slot} {rest : List Value}
theorem kn_iadd (hx : p.tables.exec = Jvm.exec) (hb : c.code = cc) {x y : Nat} (hdg : decode cc pc = .ok (.iadd, 1)) (k : W p l e R s m args below meth c H locs cells slots Q (F0 m (pc + 1) ls (.int (nI (x + y)) :: rest))) : W p l e R s m args below meth c H locs cells slots Q (F0 m pc ls (.int (nI y) :: .int (nI x) :: rest)) :=
  lv_iadd hx hb hdg (by rw [nI_add]; exact k)
theorem kn_isub (hx : p.tables.exec = Jvm.exec) (hb : c.code = cc) {x y : Nat} (hdg : decode cc pc = .ok (.isub, 1)) (h : y ≤ x) (k : W p l e R s m args below meth c H locs cells slots Q (F0 m (pc + 1) ls (.int (nI (x - y)) :: rest))) : W p l e R s m args below meth c H locs cells slots Q (F0 m pc ls (.int (nI y) :: .int (nI x) :: rest)) :=
  lv_isub hx hb hdg (by rw [pk_sub h]; exact k)
theorem kn_imul (hx : p.tables.exec = Jvm.exec) (hb : c.code = cc) {x y : Nat} (hdg : decode cc pc = .ok (.imul, 1)) (k : W p l e R s m args below meth c H locs cells slots Q (F0 m (pc + 1) ls (.int (nI (x * y)) :: rest))) : W p l e R s m args below meth c H locs cells slots Q (F0 m pc ls (.int (nI y) :: .int (nI x) :: rest)) :=
  lv_imul hx hb hdg (by rw [pk_mul]; exact k)
theorem kn_ixor (hx : p.tables.exec = Jvm.exec) (hb : c.code = cc) {x y : Nat} (hdg : decode cc pc = .ok (.ixor, 1)) (k : W p l e R s m args below meth c H locs cells slots Q (F0 m (pc + 1) ls (.int (nI (x ^^^ y)) :: rest))) : W p l e R s m args below meth c H locs cells slots Q (F0 m pc ls (.int (nI y) :: .int (nI x) :: rest)) :=
  lv_ixor hx hb hdg (by rw [kn_xor]; exact k)
theorem kn_iand (hx : p.tables.exec = Jvm.exec) (hb : c.code = cc) {x y : Nat} (hdg : decode cc pc = .ok (.iand, 1)) (k : W p l e R s m args below meth c H locs cells slots Q (F0 m (pc + 1) ls (.int (nI (x &&& y)) :: rest))) : W p l e R s m args below meth c H locs cells slots Q (F0 m pc ls (.int (nI y) :: .int (nI x) :: rest)) :=
  lv_iand hx hb hdg (by rw [kn_and]; exact k)
theorem kn_ior (hx : p.tables.exec = Jvm.exec) (hb : c.code = cc) {x y : Nat} (hdg : decode cc pc = .ok (.ior, 1)) (k : W p l e R s m args below meth c H locs cells slots Q (F0 m (pc + 1) ls (.int (nI (x ||| y)) :: rest))) : W p l e R s m args below meth c H locs cells slots Q (F0 m pc ls (.int (nI y) :: .int (nI x) :: rest)) :=
  lv_ior hx hb hdg (by rw [kn_or]; exact k)
theorem kn_idiv (hx : p.tables.exec = Jvm.exec) (hb : c.code = cc) {x y : Nat} (hdg : decode cc pc = .ok (.idiv, 1)) (h : x < 2147483648 ∧ 0 < y ∧ y < 2147483648) (k : W p l e R s m args below meth c H locs cells slots Q (F0 m (pc + 1) ls (.int (nI (x / y)) :: rest))) : W p l e R s m args below meth c H locs cells slots Q (F0 m pc ls (.int (nI y) :: .int (nI x) :: rest)) :=
  lv_idiv hx hb hdg (nI_ne0 h.2.1 h.2.2) (by rw [pk_div h.1 h.2.1 h.2.2]; exact k)
theorem kn_irem (hx : p.tables.exec = Jvm.exec) (hb : c.code = cc) {x y : Nat} (hdg : decode cc pc = .ok (.irem, 1)) (h : x < 2147483648 ∧ 0 < y ∧ y < 2147483648) (k : W p l e R s m args below meth c H locs cells slots Q (F0 m (pc + 1) ls (.int (nI (x % y)) :: rest))) : W p l e R s m args below meth c H locs cells slots Q (F0 m pc ls (.int (nI y) :: .int (nI x) :: rest)) :=
  lv_irem hx hb hdg (nI_ne0 h.2.1 h.2.2) (by rw [pk_rem h.1 h.2.1 h.2.2]; exact k)
theorem kn_to {x y : Nat} (h : x = y) (k : W p l e R s m args below meth c H locs cells slots Q (F0 m pc ls (.int (nI y) :: rest))) : W p l e R s m args below meth c H locs cells slots Q (F0 m pc ls (.int (nI x) :: rest)) := by rw [h]; exact k
theorem kn_is {x : Int32} {y : Nat} (h : x = nI y) (k : W p l e R s m args below meth c H locs cells slots Q (F0 m pc ls (.int (nI y) :: rest))) : W p l e R s m args below meth c H locs cells slots Q (F0 m pc ls (.int x :: rest)) := by rw [h]; exact k
theorem kn_clt (hx : p.tables.exec = Jvm.exec) (hb : c.code = cc) {x y : Nat} {off : Int} {tgt : Nat} (hdg : decode cc pc = .ok (.if_icmp .lt off, 3)) (ht : (pc : Int) + off = (tgt : Int)) (h : x < 2147483648 ∧ y < 2147483648)
    (kt : x < y → W p l e R s m args below meth c H locs cells slots Q (F0 m tgt ls rest)) (kf : y ≤ x → W p l e R s m args below meth c H locs cells slots Q (F0 m (pc + 3) ls rest)) : W p l e R s m args below meth c H locs cells slots Q (F0 m pc ls (.int (nI y) :: .int (nI x) :: rest)) :=
  lv_icmp_lt hx hb hdg ht (fun z => kt ((nI_ltI h.1 h.2).mp z)) (fun z => kf (Nat.le_of_not_lt fun q => z ((nI_ltI h.1 h.2).mpr q)))
theorem kn_cge (hx : p.tables.exec = Jvm.exec) (hb : c.code = cc) {x y : Nat} {off : Int} {tgt : Nat} (hdg : decode cc pc = .ok (.if_icmp .ge off, 3)) (ht : (pc : Int) + off = (tgt : Int)) (h : x < 2147483648 ∧ y < 2147483648)
    (kt : y ≤ x → W p l e R s m args below meth c H locs cells slots Q (F0 m tgt ls rest)) (kf : x < y → W p l e R s m args below meth c H locs cells slots Q (F0 m (pc + 3) ls rest)) : W p l e R s m args below meth c H locs cells slots Q (F0 m pc ls (.int (nI y) :: .int (nI x) :: rest)) :=
  lv_icmp_ge hx hb hdg ht (fun z => kt ((nI_leI h.2 h.1).mp z)) (fun z => kf (Nat.lt_of_not_le fun q => z ((nI_leI h.2 h.1).mpr q)))
theorem kn_cgt (hx : p.tables.exec = Jvm.exec) (hb : c.code = cc) {x y : Nat} {off : Int} {tgt : Nat} (hdg : decode cc pc = .ok (.if_icmp .gt off, 3)) (ht : (pc : Int) + off = (tgt : Int)) (h : x < 2147483648 ∧ y < 2147483648)
    (kt : y < x → W p l e R s m args below meth c H locs cells slots Q (F0 m tgt ls rest)) (kf : x ≤ y → W p l e R s m args below meth c H locs cells slots Q (F0 m (pc + 3) ls rest)) : W p l e R s m args below meth c H locs cells slots Q (F0 m pc ls (.int (nI y) :: .int (nI x) :: rest)) :=
  lv_icmp_gt hx hb hdg ht (fun z => kt ((nI_ltI h.2 h.1).mp z)) (fun z => kf (Nat.le_of_not_lt fun q => z ((nI_ltI h.2 h.1).mpr q)))
theorem kn_cle (hx : p.tables.exec = Jvm.exec) (hb : c.code = cc) {x y : Nat} {off : Int} {tgt : Nat} (hdg : decode cc pc = .ok (.if_icmp .le off, 3)) (ht : (pc : Int) + off = (tgt : Int)) (h : x < 2147483648 ∧ y < 2147483648)
    (kt : x ≤ y → W p l e R s m args below meth c H locs cells slots Q (F0 m tgt ls rest)) (kf : y < x → W p l e R s m args below meth c H locs cells slots Q (F0 m (pc + 3) ls rest)) : W p l e R s m args below meth c H locs cells slots Q (F0 m pc ls (.int (nI y) :: .int (nI x) :: rest)) :=
  lv_icmp_le hx hb hdg ht (fun z => kt ((nI_leI h.1 h.2).mp z)) (fun z => kf (Nat.lt_of_not_le fun q => z ((nI_leI h.1 h.2).mpr q)))
theorem kn_ceq (hx : p.tables.exec = Jvm.exec) (hb : c.code = cc) {x y : Nat} {off : Int} {tgt : Nat} (hdg : decode cc pc = .ok (.if_icmp .eq off, 3)) (ht : (pc : Int) + off = (tgt : Int)) (h : x < 4294967296 ∧ y < 4294967296)
    (kt : x = y → W p l e R s m args below meth c H locs cells slots Q (F0 m tgt ls rest)) (kf : ¬ x = y → W p l e R s m args below meth c H locs cells slots Q (F0 m (pc + 3) ls rest)) : W p l e R s m args below meth c H locs cells slots Q (F0 m pc ls (.int (nI y) :: .int (nI x) :: rest)) :=
  lv_icmp_eq hx hb hdg ht (fun z => kt ((kn_eq h.1 h.2).mp z)) (fun z => kf (fun q => z ((kn_eq h.1 h.2).mpr q)))
theorem kn_cne (hx : p.tables.exec = Jvm.exec) (hb : c.code = cc) {x y : Nat} {off : Int} {tgt : Nat} (hdg : decode cc pc = .ok (.if_icmp .ne off, 3)) (ht : (pc : Int) + off = (tgt : Int)) (h : x < 4294967296 ∧ y < 4294967296)
    (kt : ¬ x = y → W p l e R s m args below meth c H locs cells slots Q (F0 m tgt ls rest)) (kf : x = y → W p l e R s m args below meth c H locs cells slots Q (F0 m (pc + 3) ls rest)) : W p l e R s m args below meth c H locs cells slots Q (F0 m pc ls (.int (nI y) :: .int (nI x) :: rest)) :=
  lv_icmp_ne hx hb hdg ht (fun z => kt (fun q => z ((kn_eq h.1 h.2).mpr q))) (fun z => kf ((kn_eq h.1 h.2).mp z))
theorem kn_eq0 (hx : p.tables.exec = Jvm.exec) (hb : c.code = cc) {x : Nat} {off : Int} {tgt : Nat} (hdg : decode cc pc = .ok (.ifCond .eq off, 3)) (ht : (pc : Int) + off = (tgt : Int)) (h : x < 4294967296)
    (kt : x = 0 → W p l e R s m args below meth c H locs cells slots Q (F0 m tgt ls rest)) (kf : ¬ x = 0 → W p l e R s m args below meth c H locs cells slots Q (F0 m (pc + 3) ls rest)) : W p l e R s m args below meth c H locs cells slots Q (F0 m pc ls (.int (nI x) :: rest)) :=
  lv_if_eq hx hb hdg ht (fun z => kt ((kn_eq (b := 0) h (by decide)).mp z)) (fun z => kf (fun q => z ((kn_eq (b := 0) h (by decide)).mpr q)))
theorem kn_ne0 (hx : p.tables.exec = Jvm.exec) (hb : c.code = cc) {x : Nat} {off : Int} {tgt : Nat} (hdg : decode cc pc = .ok (.ifCond .ne off, 3)) (ht : (pc : Int) + off = (tgt : Int)) (h : x < 4294967296)
    (kt : ¬ x = 0 → W p l e R s m args below meth c H locs cells slots Q (F0 m tgt ls rest)) (kf : x = 0 → W p l e R s m args below meth c H locs cells slots Q (F0 m (pc + 3) ls rest)) : W p l e R s m args below meth c H locs cells slots Q (F0 m pc ls (.int (nI x) :: rest)) :=
  lv_if_ne hx hb hdg ht (fun z => kt (fun q => z ((kn_eq (b := 0) h (by decide)).mpr q))) (fun z => kf ((kn_eq (b := 0) h (by decide)).mp z))
end KN
theorem kl_z {x t : Int} (h : x = 18446744073709551616 * t) (h1 : -18446744073709551616 < x) (h2 : x < 18446744073709551616) : x = 0 := by omega
theorem kl_b0 {e0 e1 e2 : Int} (c0 : -1099511627776 < e0 ∧ e0 < 1099511627776) (c1 : -1099511627776 < e1 ∧ e1 < 1099511627776) (c2 : -1099511627776 < e2 ∧ e2 < 1099511627776) : -18446744073709551616 < -2498093 * e0 + -397201 * e1 + 8218 * e2 ∧ -2498093 * e0 + -397201 * e1 + 8218 * e2 < 18446744073709551616 := by omega
theorem kl_f0 {e0 e1 e2 j0 j1 : Int} (r1 : e1 = 6364136223846793005 * e0 - 18446744073709551616 * j0) (r2 : e2 = 6364136223846793005 * e1 - 18446744073709551616 * j1) : -2498093 * e0 + -397201 * e1 + 8218 * e2 = 18446744073709551616 * (18043689649964084197072 * e0 + -52300471487572944517889 * j0 + -8218 * j1) := by omega
theorem kl_b1 {e0 e1 e2 : Int} (c0 : -1099511627776 < e0 ∧ e0 < 1099511627776) (c1 : -1099511627776 < e1 ∧ e1 < 1099511627776) (c2 : -1099511627776 < e2 ∧ e2 < 1099511627776) : -18446744073709551616 < 993613 * e0 + -1313894 * e1 + -1941511 * e2 ∧ 993613 * e0 + -1313894 * e1 + -1941511 * e2 < 18446744073709551616 := by omega
theorem kl_f1 {e0 e1 e2 j0 j1 : Int} (r1 : e1 = 6364136223846793005 * e0 - 18446744073709551616 * j0) (r2 : e2 = 6364136223846793005 * e1 - 18446744073709551616 * j1) : 993613 * e0 + -1313894 * e1 + -1941511 * e2 = 18446744073709551616 * (-4262840342661404154699527 * e0 + 12356040484097010935244449 * j0 + 1941511 * j1) := by omega
theorem kl_b2 {e0 e1 e2 : Int} (c0 : -1099511627776 < e0 ∧ e0 < 1099511627776) (c1 : -1099511627776 < e1 ∧ e1 < 1099511627776) (c2 : -1099511627776 < e2 ∧ e2 < 1099511627776) : -18446744073709551616 < 789167 * e0 + 2349913 * e1 + -2090292 * e2 ∧ 789167 * e0 + 2349913 * e1 + -2090292 * e2 < 18446744073709551616 := by omega
theorem kl_f2 {e0 e1 e2 j0 j1 : Int} (r1 : e1 = 6364136223846793005 * e0 - 18446744073709551616 * j0) (r2 : e2 = 6364136223846793005 * e1 - 18446744073709551616 * j1) : 789167 * e0 + 2349913 * e1 + -2090292 * e2 = 18446744073709551616 * (-4589508411511648304240173 * e0 + 13302903035617160641657547 * j0 + 2090292 * j1) := by omega
theorem kl_d (e0 e1 e2 : Int) : 7308804055591 * (-2498093 * e0 + -397201 * e1 + 8218 * e2) + -810954487658 * (993613 * e0 + -1313894 * e1 + -1941511 * e2) + 781967691603 * (789167 * e0 + 2349913 * e1 + -2090292 * e2) = -18446744073709551616 * e0 := by omega
theorem kl_r {x0 x1 x2 k0 k1 : Int} (h0 : x0 * 6364136223846793005 + 1442695040888963407 = 18446744073709551616 * k0 + x1) (h1 : x1 * 6364136223846793005 + 1442695040888963407 = 18446744073709551616 * k1 + x2) : x2 - x1 = 6364136223846793005 * (x1 - x0) - 18446744073709551616 * (k1 - k0) := by omega
theorem kl_o {x0 x1 k0 : Int} (h0 : x0 * 6364136223846793005 + 1442695040888963407 = 18446744073709551616 * k0 + x1) : ¬ x1 - x0 = 0 := by omega
theorem kl_e {x y : Int} (hx : 18446744073709551616 - 1099511627776 ≤ x ∧ x < 18446744073709551616) (hy : 18446744073709551616 - 1099511627776 ≤ y ∧ y < 18446744073709551616) : -1099511627776 < y - x ∧ y - x < 1099511627776 := by omega
theorem kl_fin {e0 e1 e2 j0 j1 : Int} (r1 : e1 = 6364136223846793005 * e0 - 18446744073709551616 * j0) (r2 : e2 = 6364136223846793005 * e1 - 18446744073709551616 * j1) (c0 : -1099511627776 < e0 ∧ e0 < 1099511627776) (c1 : -1099511627776 < e1 ∧ e1 < 1099511627776) (c2 : -1099511627776 < e2 ∧ e2 < 1099511627776) : e0 = 0 := by
  have g0 := kl_z (kl_f0 r1 r2) (kl_b0 c0 c1 c2).1 (kl_b0 c0 c1 c2).2
  have g1 := kl_z (kl_f1 r1 r2) (kl_b1 c0 c1 c2).1 (kl_b1 c0 c1 c2).2
  have g2 := kl_z (kl_f2 r1 r2) (kl_b2 c0 c1 c2).1 (kl_b2 c0 c1 c2).2
  have h := kl_d e0 e1 e2
  simp only [g0, g1, g2] at h
  clear r1 r2 c0 c1 c2 g0 g1 g2
  omega
/-- four numbers in a row of the generator can't all lie in the top 2^40 -/
theorem kl_core (x0 x1 x2 x3 k0 k1 k2 : Int) (h0 : x0 * 6364136223846793005 + 1442695040888963407 = 18446744073709551616 * k0 + x1) (h1 : x1 * 6364136223846793005 + 1442695040888963407 = 18446744073709551616 * k1 + x2) (h2 : x2 * 6364136223846793005 + 1442695040888963407 = 18446744073709551616 * k2 + x3)
    (b0 : 18446744073709551616 - 1099511627776 ≤ x0 ∧ x0 < 18446744073709551616) (b1 : 18446744073709551616 - 1099511627776 ≤ x1 ∧ x1 < 18446744073709551616) (b2 : 18446744073709551616 - 1099511627776 ≤ x2 ∧ x2 < 18446744073709551616) (b3 : 18446744073709551616 - 1099511627776 ≤ x3 ∧ x3 < 18446744073709551616) : False := kl_o h0 (kl_fin (kl_r h0 h1) (kl_r h1 h2) (kl_e b0 b1) (kl_e b1 b2) (kl_e b2 b3))
