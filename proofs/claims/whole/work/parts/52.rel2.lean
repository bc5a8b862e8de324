/-! pure: the dialogue of the class against the model's -/
def rgN (n : Nat → Nat → Nat) (p m : Nat) : Nat × Nat := rngF (n 14 4) (n 14 5) p m
def tpN (n : Nat → Nat → Nat) (p m : Nat) : Nat := parF (n 6) (n (20 + p)) (rgN n p m).1 ((rgN n p m).2 - (rgN n p m).1)
def DX (n : Nat → Nat → Nat) : Prop := (4 ≤ n 14 4 ∧ n 14 4 ≤ n 14 5 ∧ n 14 5 ≤ 128) ∧ (∀ p i, p < 4 → i < n 14 5 → n (20 + p) i < n 14 5) ∧ (∀ i, n 6 i < 2 ∧ n 12 i < 2) ∧ (∀ p m, p < 4 → m < n 14 5 → n (25 + p) m = 4294967295 ∨ n (25 + p) m = tpN n p m) ∧ n 15 0 ≤ 16 ∧ n 14 3 ≤ 4
/-- every block of the passes before the current one is known -/
def BK (n : Nat → Nat → Nat) : Prop := ∀ p b, p < 4 → p < n 14 3 → b < bcF n p → ¬ n (25 + p) (b * (n 14 4 * 2 ^ p)) = 4294967295
def R1 (n m : Nat → Nat → Nat) : Prop := m 33 6 = n 14 4 ∧ m 33 2 = n 14 5 ∧ m 33 7 = n 14 3 ∧ m 33 8 = n 14 0 ∧ m 33 11 = n 15 0 ∧ m 33 10 = n 14 2
def R2 (n m : Nat → Nat → Nat) : Prop := ∀ i, i < 128 → n 6 i = m 38 i ∧ n 12 i = m 38 (128 + i)
def R3 (n m : Nat → Nat → Nat) : Prop := ∀ p i, p < 4 → i < n 14 5 → n (20 + p) i = m 41 (128 * p + i)
def R4 (n m : Nat → Nat → Nat) : Prop := ∀ p i, p < 4 → i < n 14 5 → n (25 + p) i = kwF m p (rgN n p i).1 (rgN n p i).2
theorem fb_eq {r r' : Nat → Nat} {b : Nat} : ∀ k, (∀ j, j < k → r (j * b) = r' (j * b)) → fbF r b k = fbF r' b k
  | 0, _ => rfl
  | k + 1, h => by
    simp only [fbF]
    rw [fb_eq k (fun j hj => h j (by omega)), h k (by omega)]
theorem fb_all {r : Nat → Nat} {b : Nat} : ∀ k, fbF r b k = none → ∀ j, j < k → ¬ r (j * b) = 4294967295
  | 0, _, j, hj => absurd hj (by omega)
  | k + 1, h, j, hj => by
    have h1 : fbF r b k = none := by
      cases hc : fbF r b k with
      | none => rfl
      | some x => simp only [fbF, hc] at h; cases h
    by_cases hjk : j < k
    · exact fb_all k h1 j hjk
    · have : j = k := by omega
      subst this
      intro h2
      rw [fb_hit h1 h2] at h
      cases h
theorem be_R {n m : Nat → Nat → Nat} (h : R1 n m) (p f : Nat) : beM m p f = beF n p f := by
  unfold beM beF
  rw [h.1, h.2.1]
theorem bc_R {n m : Nat → Nat → Nat} (h : R1 n m) (p : Nat) : bcM m p = bcF n p := by
  unfold bcM bcF
  rw [h.1, h.2.1]
theorem be_rg (n : Nat → Nat → Nat) (p f : Nat) : beF n p f = beR (n 14 4) (n 14 5) p f := rfl
theorem par_R {n m : Nat → Nat → Nat} (hD : DX n) (h2 : R2 n m) (h3 : R3 n m) {p f k : Nat} (hp : p < 4) (hk : f + k ≤ n 14 5) : parF (n 12) (n (20 + p)) f k = parF (mS m 1) (mO m p) f k := by
  refine parF_eq k (fun i h4 h5 => ?_)
  have h6 := hD.2.1 p i hp (by omega)
  have h7 := h3 p i hp (by omega)
  have h8 := hD.1.2.2
  show n 12 (n (20 + p) i) = m 38 (128 * 1 + m 41 (128 * p + i))
  rw [← h7, (h2 _ (by omega)).2]
/-- asking for a block -/
theorem af_R {n m : Nat → Nat → Nat} (hD : DX n) (h1 : R1 n m) (h4 : R4 n m) {q : Nat} (hq : q < 4) : fbF (fun f => kwF m q f (beM m q f)) (m 33 6 * 2 ^ q) (bcM m q) = fbF (n (25 + q)) (n 14 4 * 2 ^ q) (bcF n q) := by
  rw [h1.1, bc_R h1]
  refine fb_eq _ (fun j hj => ?_)
  have hlt := blk_lt (n := n) (q := q) (b := j) (by have := hD.1; omega) hj
  have h5 := h4 q _ hq hlt
  rw [h5]
  have h6 : rgN n q (j * (n 14 4 * 2 ^ q)) = (j * (n 14 4 * 2 ^ q), beR (n 14 4) (n 14 5) q (j * (n 14 4 * 2 ^ q))) := rng_block
  rw [h6, be_R h1, be_rg]
/-- the smallest odd block -/
def coZ (n : Nat → Nat → Nat) (Q : Nat) (z z' : Nat × Nat) : Prop := (z.1 = 4294967295 ∧ z.2 = 129 ∧ z'.1 = 4294967295) ∨ (z.1 = z'.2 * 128 + z'.1 ∧ z'.2 < Q ∧ z'.1 < n 14 5 ∧ z.2 = beF n z'.2 z'.1 - z'.1 ∧ (∃ b, b < bcF n z'.2 ∧ z'.1 = b * (n 14 4 * 2 ^ z'.2)) ∧ ¬ n (25 + z'.2) z'.1 = parF (n 12) (n (20 + z'.2)) z'.1 (beF n z'.2 z'.1 - z'.1))
theorem coZ_up {n : Nat → Nat → Nat} {Q Q' : Nat} {z z' : Nat × Nat} (hQ : Q ≤ Q') (h : coZ n Q z z') : coZ n Q' z z' := by
  rcases h with h | h
  · exact Or.inl h
  · exact Or.inr ⟨h.1, by omega, h.2.2⟩
theorem sb_R {n m : Nat → Nat → Nat} (hD : DX n) (h1 : R1 n m) (h2 : R2 n m) (h3 : R3 n m) (h4 : R4 n m) {q : Nat} (hq : q < 4) {z z' : Nat × Nat} (hz : coZ n q z z') : ∀ b, b ≤ bcF n q → coZ n (q + 1) (sbF n q z b) (sbT m q z' b)
  | 0, _ => coZ_up (by omega) hz
  | b + 1, hb => by
    have ih := sb_R hD h1 h2 h3 h4 hq hz b (by omega)
    have hlt := blk_lt (n := n) (q := q) (b := b) (by have := hD.1; omega) (by omega)
    have hbe := be_le (n := n) (q := q) (f := b * (n 14 4 * 2 ^ q))
    have hbg := be_gt (n := n) (q := q) (f := b * (n 14 4 * 2 ^ q)) hD.1.1 hlt
    have hkw : kwF m q (b * (n 14 4 * 2 ^ q)) (beF n q (b * (n 14 4 * 2 ^ q))) = n (25 + q) (b * (n 14 4 * 2 ^ q)) := by
      rw [h4 q _ hq hlt, show rgN n q (b * (n 14 4 * 2 ^ q)) = (b * (n 14 4 * 2 ^ q), beR (n 14 4) (n 14 5) q (b * (n 14 4 * 2 ^ q))) from rng_block, be_rg]
    have hpr := par_R hD h2 h3 (p := q) (f := b * (n 14 4 * 2 ^ q)) (k := beF n q (b * (n 14 4 * 2 ^ q)) - b * (n 14 4 * 2 ^ q)) hq (by omega)
    simp only [sbF, sbT]
    rw [h1.1, be_R h1, hkw, ← hpr]
    unfold odF
    by_cases hod : n (25 + q) (b * (n 14 4 * 2 ^ q)) = parF (n 12) (n (20 + q)) (b * (n 14 4 * 2 ^ q)) (beF n q (b * (n 14 4 * 2 ^ q)) - b * (n 14 4 * 2 ^ q))
    · rw [if_pos hod, if_pos hod]
      simp only [if_true]
      split
      · exact ih
      · exact ih
    · rw [if_neg hod, if_neg hod]
      simp only [show ¬ (1 : Nat) = 0 from by decide, if_false]
      have hnew : coZ n (q + 1) (q * 128 + b * (n 14 4 * 2 ^ q), beF n q (b * (n 14 4 * 2 ^ q)) - b * (n 14 4 * 2 ^ q)) (b * (n 14 4 * 2 ^ q), q) := Or.inr ⟨rfl, by show q < q + 1; omega, hlt, rfl, ⟨b, by show b < bcF n q; omega, rfl⟩, hod⟩
      rcases ih with ⟨e1, e2, e3⟩ | ⟨e1, e2, e3, e4, e5⟩
      · have hc : beF n q (b * (n 14 4 * 2 ^ q)) - b * (n 14 4 * 2 ^ q) < (sbF n q z b).2 := by rw [e2]; have := hD.1.2.2; omega
        simp only [hc, e3, if_true]
        exact hnew
      · have hne : ¬ (sbT m q z' b).1 = 4294967295 := by have := hD.1.2.2; omega
        rw [be_R h1, ← e4]
        by_cases hc : beF n q (b * (n 14 4 * 2 ^ q)) - b * (n 14 4 * 2 ^ q) < (sbF n q z b).2
        · simp only [hc, hne, if_true, if_false]
          exact hnew
        · simp only [hc, hne, if_false]
          exact Or.inr ⟨e1, e2, e3, e4, e5⟩
theorem so_R {n m : Nat → Nat → Nat} (hD : DX n) (h1 : R1 n m) (h2 : R2 n m) (h3 : R3 n m) (h4 : R4 n m) : ∀ q, q ≤ 4 → coZ n q (soF n q) (soT m q)
  | 0, _ => Or.inl ⟨rfl, rfl, rfl⟩
  | q + 1, hq => by
    show coZ n (q + 1) (sbF n q (soF n q) (bcF n q)) (sbT m q (soT m q) (bcM m q))
    rw [bc_R h1]
    exact sb_R hD h1 h2 h3 h4 (by omega) (so_R hD h1 h2 h3 h4 q (by omega)) _ (Nat.le_refl _)
/-- nodes of the halving -/
def nodeP (r w : Nat × Nat) : Prop := ∃ (j : Nat) (v : Nat → Nat × Nat), j + (w.2 - w.1) ≤ 128 ∧ v 0 = r ∧ v j = w ∧ (∀ i, i < j → ¬ (v i).2 - (v i).1 ≤ 1 ∧ stepD (v i) (v (i + 1))) ∧ r.1 ≤ w.1 ∧ w.2 ≤ r.2 ∧ w.1 < w.2
theorem node_root {r : Nat × Nat} (h : r.1 < r.2) (h2 : r.2 - r.1 ≤ 128) : nodeP r r := ⟨0, fun _ => r, by omega, rfl, rfl, fun i hi => absurd hi (by omega), Nat.le_refl _, Nat.le_refl _, h⟩
theorem node_child {r w w' : Nat × Nat} (h : nodeP r w) (hg : ¬ w.2 - w.1 ≤ 1) (hs : stepD w w') : nodeP r w' := by
  obtain ⟨j, v, h1, h2, h3, h4, h5, h6, h7⟩ := h
  have hm := md_in hg
  refine ⟨j + 1, fun i => if i ≤ j then v i else w', ?_, ?_, ?_, ?_, ?_⟩
  · rcases hs with rfl | rfl
    · show j + 1 + (mdF w - w.1) ≤ 128; omega
    · show j + 1 + (w.2 - mdF w) ≤ 128; omega
  · simp [h2]
  · show (if j + 1 ≤ j then v (j + 1) else w') = w'
    rw [if_neg (by omega)]
  · intro i hi
    by_cases hij : i < j
    · have := h4 i hij
      simp only [show i ≤ j by omega, show i + 1 ≤ j by omega, if_true]
      exact this
    · have : i = j := by omega
      subst this
      simp only [Nat.le_refl, show ¬ i + 1 ≤ i by omega, if_true, if_false]
      rw [h3]
      exact ⟨hg, hs⟩
  · rcases hs with rfl | rfl
    · exact ⟨h5, by show mdF w ≤ r.2; omega, hm.1⟩
    · exact ⟨by show r.1 ≤ mdF w; omega, h6, hm.2⟩
theorem node_rng {z t p b : Nat} {w : Nat × Nat} (h : nodeP (b * (z * 2 ^ p), beR z t p (b * (z * 2 ^ p))) w) (hg : ¬ w.2 - w.1 ≤ 1) : rngF z t p (mdF w) = (w.1, mdF w) := by
  obtain ⟨j, v, h1, h2, h3, h4, h5, h6, h7⟩ := h
  subst h3
  exact rng_mid h2 (by omega) h4 hg ⟨by rw [h2]; exact h5, by rw [h2]; exact h6⟩
/-- parities of both strings over a range -/
def zp (n : Nat → Nat → Nat) (q : Nat) (w : Nat × Nat) : Nat := parF (n 6) (n (20 + q)) w.1 (w.2 - w.1)
def op (n : Nat → Nat → Nat) (q : Nat) (w : Nat × Nat) : Nat := parF (n 12) (n (20 + q)) w.1 (w.2 - w.1)
theorem par_split {s o : Nat → Nat} {a b c : Nat} (h1 : a ≤ b) (h2 : b ≤ c) : parF s o a (c - a) = parF s o a (b - a) ^^^ parF s o b (c - b) := by
  have := parF_add (s := s) (o := o) (f := a) (j := b - a) (c - b)
  rw [show b - a + (c - b) = c - a by omega, show a + (b - a) = b by omega] at this
  exact this
theorem xor_cancel {a b c d : Nat} (h : ¬ a ^^^ b = c ^^^ d) (h2 : a = c) : ¬ b = d := fun q => h (by rw [h2, q])
theorem hv_R {n m : Nat → Nat → Nat} (hD : DX n) (h1 : R1 n m) (h2 : R2 n m) (h3 : R3 n m) (h4 : R4 n m) {q b : Nat} (hq : q < 4) (hb : b < bcF n q) : ∀ k, hvF n q (b * (n 14 4 * 2 ^ q), beF n q (b * (n 14 4 * 2 ^ q))) k = hvT m q (b * (n 14 4 * 2 ^ q), beF n q (b * (n 14 4 * 2 ^ q))) k ∧ nodeP (b * (n 14 4 * 2 ^ q), beF n q (b * (n 14 4 * 2 ^ q))) (hvF n q (b * (n 14 4 * 2 ^ q), beF n q (b * (n 14 4 * 2 ^ q))) k) ∧ (¬ n (25 + q) (b * (n 14 4 * 2 ^ q)) = 4294967295 → ¬ n (25 + q) (b * (n 14 4 * 2 ^ q)) = op n q (b * (n 14 4 * 2 ^ q), beF n q (b * (n 14 4 * 2 ^ q))) → ¬ zp n q (hvF n q (b * (n 14 4 * 2 ^ q), beF n q (b * (n 14 4 * 2 ^ q))) k) = op n q (hvF n q (b * (n 14 4 * 2 ^ q), beF n q (b * (n 14 4 * 2 ^ q))) k))
  | 0 => by
    have hlt := blk_lt (n := n) (q := q) (b := b) (by have := hD.1; omega) hb
    have hbe := be_le (n := n) (q := q) (f := b * (n 14 4 * 2 ^ q))
    have hbg := be_gt (n := n) (q := q) (f := b * (n 14 4 * 2 ^ q)) hD.1.1 hlt
    refine ⟨rfl, node_root hbg (by have := hD.1.2.2; show beF n q (b * (n 14 4 * 2 ^ q)) - b * (n 14 4 * 2 ^ q) ≤ 128; omega), fun hk ho => ?_⟩
    rcases hD.2.2.2.1 q _ hq hlt with h | h
    · exact absurd h hk
    · have h6 : rgN n q (b * (n 14 4 * 2 ^ q)) = (b * (n 14 4 * 2 ^ q), beF n q (b * (n 14 4 * 2 ^ q))) := rng_block
      unfold tpN at h
      rw [h6] at h
      intro hc
      exact ho (h.trans hc)
  | k + 1 => by
    obtain ⟨ih1, ih2, ih3⟩ := hv_R hD h1 h2 h3 h4 hq hb k
    have hbe := be_le (n := n) (q := q) (f := b * (n 14 4 * 2 ^ q))
    simp only [hvF, hvT]
    rw [← ih1]
    generalize hvF n q (b * (n 14 4 * 2 ^ q), beF n q (b * (n 14 4 * 2 ^ q))) k = w at ih2 ih3 ⊢
    by_cases hg : w.2 - w.1 ≤ 1
    · rw [if_pos hg, if_pos hg]
      exact ⟨rfl, ih2, ih3⟩
    · rw [if_neg hg, if_neg hg]
      have hm := md_in hg
      obtain ⟨j, v, -, -, -, -, hr1, hr2, hr3⟩ := id ih2
      have hr2 : w.2 ≤ beF n q (b * (n 14 4 * 2 ^ q)) := hr2
      have hrg : rgN n q (mdF w) = (w.1, mdF w) := node_rng (z := n 14 4) (t := n 14 5) (p := q) (b := b) ih2 hg
      have hmt : mdF w < n 14 5 := by omega
      have hkw : kwF m q w.1 (mdF w) = n (25 + q) (mdF w) := by rw [h4 q _ hq hmt, hrg]
      have hpr := par_R hD h2 h3 (p := q) (f := w.1) (k := mdF w - w.1) hq (by omega)
      rw [hkw, ← hpr]
      by_cases hun : n (25 + q) (mdF w) = 4294967295
      · rw [if_pos hun, if_pos hun]
        exact ⟨rfl, ih2, ih3⟩
      · rw [if_neg hun, if_neg hun]
        have hkt : n (25 + q) (mdF w) = parF (n 6) (n (20 + q)) w.1 (mdF w - w.1) := by
          rcases hD.2.2.2.1 q _ hq hmt with h | h
          · exact absurd h hun
          · unfold tpN at h
            rw [hrg] at h
            exact h
        unfold odF
        by_cases hod : n (25 + q) (mdF w) = parF (n 12) (n (20 + q)) w.1 (mdF w - w.1)
        · rw [if_pos hod, if_pos hod]
          simp only [if_true]
          refine ⟨trivial, node_child ih2 hg (Or.inr rfl), fun x1 x2 => ?_⟩
          have h9 := ih3 x1 x2
          unfold zp op at h9 ⊢
          rw [par_split (b := mdF w) (by omega) (by omega), par_split (s := n 12) (b := mdF w) (by omega) (by omega)] at h9
          exact xor_cancel h9 (hkt.symm.trans hod)
        · rw [if_neg hod, if_neg hod]
          simp only [show ¬ (1 : Nat) = 0 from by decide, if_false]
          refine ⟨trivial, node_child ih2 hg (Or.inl rfl), fun x1 x2 => ?_⟩
          unfold zp op
          intro hc
          exact hod (hkt.trans hc)
