/-! longs by numbers (the family wb_ of kit/laws/BITS.to-paste), drawing -/
theorem wb_tb (n : Nat) : (lN n).toBitVec = BitVec.ofNat 64 n := rfl
theorem wb_inj {a b : Int64} (h : a.toBitVec = b.toBitVec) : a = b := Int64.toBitVec_inj.mp h
theorem wb_tn {n : Nat} (h : n < 2 ^ 64) : (lN n).toBitVec.toNat = n := by rw [wb_tb, BitVec.toNat_ofNat, Nat.mod_eq_of_lt h]
theorem wb_of (x : Int64) : ∃ n, n < 2 ^ 64 ∧ x = lN n := ⟨x.toBitVec.toNat, x.toBitVec.isLt, wb_inj (by rw [wb_tb]; simp)⟩
theorem wb_of32 (x : Int32) : ∃ n, n < 2 ^ 32 ∧ x = nI n := ⟨x.toBitVec.toNat, x.toBitVec.isLt, Int32.toBitVec_inj.mp (by show _ = BitVec.ofNat 32 _; simp)⟩
theorem wb_c : ∀ k, k < 64 → ((nI k).toInt64 &&& 63) = lN k := by decide +kernel
theorem wb_cu : ∀ k, k < 64 → ((nI k).toInt64.toUInt64 &&& Int64.toUInt64 63) = UInt64.ofNat k := by decide +kernel
theorem wb_sm : ∀ k, k < 64 → (BitVec.ofNat 64 k).smod 64 = BitVec.ofNat 64 k := by decide +kernel
theorem wb_pw {a b : Nat} (h : a ≤ b) : 2 ^ b = 2 ^ a * 2 ^ (b - a) := by rw [← Nat.pow_add]; congr 1; omega
theorem wb_lt2 {a b : Nat} (h : a < b) : 2 ^ a < 2 ^ b := Nat.pow_lt_pow_right (by decide) h
theorem wb_mod (n : Nat) : lN n = lN (n % 2 ^ 64) := wb_inj (by rw [wb_tb, wb_tb]; apply BitVec.eq_of_toNat_eq; rw [BitVec.toNat_ofNat, BitVec.toNat_ofNat, Nat.mod_mod])
theorem wb_shr {n k : Nat} (hn : n < 2 ^ 64) (hk : k < 64) : ((lN n).toUInt64 >>> ((nI k).toInt64.toUInt64 &&& Int64.toUInt64 63)).toInt64 = lN (n / 2 ^ k) := by
  rw [wb_cu k hk]
  apply wb_inj
  apply BitVec.eq_of_toNat_eq
  show ((lN n).toUInt64 >>> UInt64.ofNat k).toNat = (BitVec.ofNat 64 _).toNat
  have h1 : (UInt64.ofNat k).toNat = k := by
    show (BitVec.ofNat 64 k).toNat = k
    rw [BitVec.toNat_ofNat, Nat.mod_eq_of_lt (by omega)]
  have h2 : (lN n).toUInt64.toNat = n := wb_tn hn
  rw [UInt64.toNat_shiftRight, h1, h2, Nat.mod_eq_of_lt hk, Nat.shiftRight_eq_div_pow, BitVec.toNat_ofNat, Nat.mod_eq_of_lt (Nat.lt_of_le_of_lt (Nat.div_le_self _ _) hn)]
theorem wb_shl (n : Nat) {k : Nat} (hk : k < 64) : lN n <<< ((nI k).toInt64 &&& 63) = lN (n * 2 ^ k) := by
  rw [wb_c k hk]
  apply wb_inj
  rw [Int64.toBitVec_shiftLeft, wb_tb, wb_tb, wb_tb, wb_sm k hk]
  apply BitVec.eq_of_toNat_eq
  rw [BitVec.shiftLeft_eq', BitVec.toNat_shiftLeft, BitVec.toNat_ofNat, BitVec.toNat_ofNat, BitVec.toNat_ofNat, Nat.mod_eq_of_lt (show k < 2 ^ 64 by omega), Nat.shiftLeft_eq, Nat.mul_mod, Nat.mod_mod, ← Nat.mul_mod]
theorem wb_and {a b : Nat} (ha : a < 2 ^ 64) (hb : b < 2 ^ 64) : lN a &&& lN b = lN (a &&& b) := by
  apply wb_inj
  rw [Int64.toBitVec_and, wb_tb, wb_tb, wb_tb]
  apply BitVec.eq_of_toNat_eq
  rw [BitVec.toNat_and, BitVec.toNat_ofNat, BitVec.toNat_ofNat, BitVec.toNat_ofNat, Nat.mod_eq_of_lt ha, Nat.mod_eq_of_lt hb, Nat.mod_eq_of_lt (Nat.and_lt_two_pow _ hb)]
theorem wb_or {a b : Nat} (ha : a < 2 ^ 64) (hb : b < 2 ^ 64) : lN a ||| lN b = lN (a ||| b) := by
  apply wb_inj
  rw [Int64.toBitVec_or, wb_tb, wb_tb, wb_tb]
  apply BitVec.eq_of_toNat_eq
  rw [BitVec.toNat_or, BitVec.toNat_ofNat, BitVec.toNat_ofNat, BitVec.toNat_ofNat, Nat.mod_eq_of_lt ha, Nat.mod_eq_of_lt hb, Nat.mod_eq_of_lt (Nat.or_lt_two_pow ha hb)]
theorem wb_mask {n k : Nat} (hn : n < 2 ^ 64) (hk : k < 64) : lN n &&& lN (2 ^ k - 1) = lN (n % 2 ^ k) := by
  rw [wb_and hn (by have := wb_lt2 hk; omega), Nat.and_two_pow_sub_one_eq_mod]
theorem wb_a1 {n : Nat} (hn : n < 2 ^ 64) : lN n &&& 1 = lN (n % 2) := wb_mask (k := 1) hn (by decide)
theorem wb_bit {n k : Nat} (hn : n < 2 ^ 64) (hk : k < 64) : ((lN n).toUInt64 >>> ((nI k).toInt64.toUInt64 &&& Int64.toUInt64 63)).toInt64 &&& 1 = lN (n / 2 ^ k % 2) := by
  rw [wb_shr hn hk, wb_a1 (Nat.lt_of_le_of_lt (Nat.div_le_self _ _) hn)]
def advF (x : Nat) : Nat := (x * 6364136223846793005 + 1442695040888963407) % 18446744073709551616
def itF (s : Nat) : Nat → Nat
  | 0 => s
  | k + 1 => advF (itF s k)
def limF (k : Nat) : Nat := 2147483648 / k * k
/-- how many are rejected -/
def dbK (s k : Nat) : Nat := if itF s 1 / 2 ^ 33 < limF k then 0 else if itF s 2 / 2 ^ 33 < limF k then 1 else if itF s 3 / 2 ^ 33 < limF k then 2 else 3
def drS (s k : Nat) : Nat := itF s (dbK s k + 1)
def drV (s k : Nat) : Nat := drS s k / 2 ^ 33 % k
theorem advF_lt (x : Nat) : advF x < 18446744073709551616 := Nat.mod_lt _ (by decide)
theorem itF_lt (s k : Nat) : itF s (k + 1) < 18446744073709551616 := advF_lt _
theorem dbK_le (s k : Nat) : dbK s k ≤ 3 := by unfold dbK; split; · omega
                                               split; · omega
                                               split <;> omega
theorem limF_ge {k : Nat} (h2 : 2 ≤ k) (hk : k ≤ 128) : 2147483648 - 128 < limF k := by
  unfold limF
  have h1 := Nat.div_add_mod 2147483648 k
  have h3 := Nat.mod_lt 2147483648 (show 0 < k by omega)
  have h4 : k * (2147483648 / k) = 2147483648 / k * k := Nat.mul_comm _ _
  omega
theorem limF_le {k : Nat} : limF k ≤ 2147483648 := Nat.div_mul_le_self _ _
theorem adv_eq (x : Nat) : ∃ q : Int, (x : Int) * 6364136223846793005 + 1442695040888963407 = 18446744073709551616 * q + (advF x : Int) := by
  refine ⟨((x * 6364136223846793005 + 1442695040888963407) / 18446744073709551616 : Nat), ?_⟩
  have h := Nat.div_add_mod (x * 6364136223846793005 + 1442695040888963407) 18446744073709551616
  unfold advF
  omega
theorem rej_top {k x : Nat} (h2 : 2 ≤ k) (hk : k ≤ 128) (hx : x < 18446744073709551616) (h : limF k ≤ x / 2 ^ 33) : 18446744073709551616 - 1099511627776 ≤ (x : Int) ∧ (x : Int) < 18446744073709551616 := by
  have := limF_ge h2 hk
  omega
/-- of four in a row one is accepted -/
theorem db_some {s k : Nat} (h2 : 2 ≤ k) (hk : k ≤ 128) (h : limF k ≤ itF s 1 / 2 ^ 33) (h' : limF k ≤ itF s 2 / 2 ^ 33) (h'' : limF k ≤ itF s 3 / 2 ^ 33) : itF s 4 / 2 ^ 33 < limF k := by
  apply Nat.lt_of_not_le
  intro h4
  obtain ⟨q1, e1⟩ := adv_eq (itF s 1)
  obtain ⟨q2, e2⟩ := adv_eq (itF s 2)
  obtain ⟨q3, e3⟩ := adv_eq (itF s 3)
  exact kl_core _ _ _ _ q1 q2 q3 e1 e2 e3 (rej_top h2 hk (itF_lt s 0) h) (rej_top h2 hk (itF_lt s 1) h') (rej_top h2 hk (itF_lt s 2) h'') (rej_top h2 hk (itF_lt s 3) h4)
theorem db_acc {s k : Nat} (h2 : 2 ≤ k) (hk : k ≤ 128) : itF s (dbK s k + 1) / 2 ^ 33 < limF k := by
  unfold dbK
  split
  · assumption
  · split
    · assumption
    · split
      · assumption
      · exact db_some h2 hk (by omega) (by omega) (by omega)
theorem db_rej {s k j : Nat} (h : j < dbK s k) : limF k ≤ itF s (j + 1) / 2 ^ 33 := by
  unfold dbK at h
  split at h
  · omega
  · rename_i h1
    split at h
    · rcases (show j = 0 by omega) with rfl
      exact Nat.le_of_not_lt h1
    · rename_i h2
      split at h
      · rcases (show j = 0 ∨ j = 1 by omega) with rfl | rfl
        · exact Nat.le_of_not_lt h1
        · exact Nat.le_of_not_lt h2
      · rename_i h3
        rcases (show j = 0 ∨ j = 1 ∨ j = 2 by omega) with rfl | rfl | rfl
        · exact Nat.le_of_not_lt h1
        · exact Nat.le_of_not_lt h2
        · exact Nat.le_of_not_lt h3
theorem db_hit {s k j : Nat} (h : j ≤ dbK s k) (ha : itF s (j + 1) / 2 ^ 33 < limF k) : dbK s k = j := by
  rcases Nat.lt_or_ge j (dbK s k) with h1 | h1
  · have := db_rej h1; omega
  · omega
theorem db_miss {s k j : Nat} (h2 : 2 ≤ k) (hk : k ≤ 128) (h : j ≤ dbK s k) (ha : limF k ≤ itF s (j + 1) / 2 ^ 33) : j + 1 ≤ dbK s k := by
  rcases Nat.lt_or_ge j (dbK s k) with h1 | h1
  · omega
  · have e : dbK s k = j := by omega
    have := db_acc (s := s) h2 hk
    rw [e] at this
    omega
theorem drV_lt {s k : Nat} (h : 0 < k) : drV s k < k := Nat.mod_lt _ h
theorem kg_kg (g : Nat → Nat) (i x y : Nat) : kg (kg g i x) i y = kg g i y := by
  funext j
  unfold kg
  split <;> rfl
section KL
variable {p : Program} {l : Launch} {e : Env} {R : Room} {s : State} {m : MethodId} {args : Array Value} {below : List Frame} {meth : Method} {c : Code} {H : Heap} {locs : List Loc} {cells slots : Nat} {Q : State → Prop}
variable {cc : ByteArray} {pc : Nat} {ls : Array Slot} {rest : List Value}
theorem kn_lmul (hx : p.tables.exec = Jvm.exec) (hb : c.code = cc) {x y : Nat} (hdg : decode cc pc = .ok (.lmul, 1)) (k : W p l e R s m args below meth c H locs cells slots Q (F0 m (pc + 1) ls (.long (lN (x * y)) :: rest))) : W p l e R s m args below meth c H locs cells slots Q (F0 m pc ls (.long (lN y) :: .long (lN x) :: rest)) :=
  lv_lmul hx hb hdg (by rw [lN_mul]; exact k)
theorem kn_ladd (hx : p.tables.exec = Jvm.exec) (hb : c.code = cc) {x y : Nat} (hdg : decode cc pc = .ok (.ladd, 1)) (k : W p l e R s m args below meth c H locs cells slots Q (F0 m (pc + 1) ls (.long (lN (x + y)) :: rest))) : W p l e R s m args below meth c H locs cells slots Q (F0 m pc ls (.long (lN y) :: .long (lN x) :: rest)) :=
  lv_ladd hx hb hdg (by rw [lN_add]; exact k)
theorem kn_ldiv (hx : p.tables.exec = Jvm.exec) (hb : c.code = cc) {x y : Nat} (hdg : decode cc pc = .ok (.ldiv, 1)) (h : x < 9223372036854775808 ∧ 0 < y ∧ y < 9223372036854775808) (k : W p l e R s m args below meth c H locs cells slots Q (F0 m (pc + 1) ls (.long (lN (x / y)) :: rest))) : W p l e R s m args below meth c H locs cells slots Q (F0 m pc ls (.long (lN y) :: .long (lN x) :: rest)) :=
  lv_ldiv hx hb hdg (fun z => by have := (pk_lEQ (b := 0) h.2.2 (by decide)).mp z; omega) (by rw [pk_lDiv h.1 h.2.1 h.2.2]; exact k)
theorem kn_lrem (hx : p.tables.exec = Jvm.exec) (hb : c.code = cc) {x y : Nat} (hdg : decode cc pc = .ok (.lrem, 1)) (h : x < 9223372036854775808 ∧ 0 < y ∧ y < 9223372036854775808) (k : W p l e R s m args below meth c H locs cells slots Q (F0 m (pc + 1) ls (.long (lN (x % y)) :: rest))) : W p l e R s m args below meth c H locs cells slots Q (F0 m pc ls (.long (lN y) :: .long (lN x) :: rest)) :=
  lv_lrem hx hb hdg (fun z => by have := (pk_lEQ (b := 0) h.2.2 (by decide)).mp z; omega) (by rw [pk_lRem h.1 h.2.1 h.2.2]; exact k)
theorem kn_tol {x y : Nat} (h : lN x = lN y) (k : W p l e R s m args below meth c H locs cells slots Q (F0 m pc ls (.long (lN y) :: rest))) : W p l e R s m args below meth c H locs cells slots Q (F0 m pc ls (.long (lN x) :: rest)) := by rw [h]; exact k
theorem kn_lge (hx : p.tables.exec = Jvm.exec) (hb : c.code = cc) {x y : Nat} {off : Int} {tgt : Nat} (hd0 : decode cc pc = .ok (.lcmp, 1)) (hdg : decode cc (pc + 1) = .ok (.ifCond .ge off, 3)) (ht : ((pc + 1 : Nat) : Int) + off = (tgt : Int)) (h : x < 9223372036854775808 ∧ y < 9223372036854775808)
    (kt : y ≤ x → W p l e R s m args below meth c H locs cells slots Q (F0 m tgt ls rest)) (kf : x < y → W p l e R s m args below meth c H locs cells slots Q (F0 m (pc + 1 + 3) ls rest)) : W p l e R s m args below meth c H locs cells slots Q (F0 m pc ls (.long (lN y) :: .long (lN x) :: rest)) :=
  W.lcmp hx hb hd0 (lv_if_ge hx hb hdg ht (fun z => kt ((pk_lLE h.2 h.1).mp ((lg_cmp_ge _ _).mp z))) (fun z => kf (Nat.lt_of_not_le fun q => z ((lg_cmp_ge _ _).mpr ((pk_lLE h.2 h.1).mpr q)))))
end KL
theorem adv_lN (x : Nat) : lN (x * 6364136223846793005 + 1442695040888963407) = lN (advF x) := wb_mod _
