/-! pure: flipping, the next pass, a round, going on -/
theorem RX_flip {n m : Nat → Nat → Nat} (h : RX n m) {q f : Nat} (hq : q < 4) (hf : f < n 14 5) : RX (fpF n q f) (fpM m q f) := by
  obtain ⟨hD, h1, h2, h3, h4, h5, h6, h7, h8, h9, hb, hd2, hBn, hBm, hBK⟩ := h
  have hl : n 14 5 ≤ 128 := hD.1.2.2
  have hx : n (20 + q) f < n 14 5 := hD.2.1 q f hq hf
  have ho : m 41 (128 * q + f) = n (20 + q) f := (h3 q f hq hf).symm
  have e : ∀ r, r ≠ 12 → fpF n q f r = n r := fun r hr => ku_row hr
  have em : ∀ r, r ≠ 38 → fpM m q f r = m r := fun r hr => ku_row hr
  have hbit : ∀ i, fpF n q f 12 i < 2 := fun i => by
    unfold fpF
    simp only [ku, if_true]
    split
    · exact kx1 (hD.2.2.1 _).2 (by decide)
    · exact (hD.2.2.1 i).2
  have ekw : ∀ p f9 t, kwF (fpM m q f) p f9 t = kwF m p f9 t := fun p f9 t => kwF_eq (em 42 (by decide)) (em 43 (by decide)) (em 44 (by decide)) (em 45 (by decide)) (by rw [em 33 (by decide)]) p f9 t
  have e20 : ∀ p, p < 4 → fpF n q f (20 + p) = n (20 + p) := fun p _ => e _ (by omega)
  have e25 : ∀ p, p < 4 → fpF n q f (25 + p) = n (25 + p) := fun p _ => e _ (by omega)
  have e14 := e 14 (by decide)
  have m33 := em 33 (by decide)
  refine ⟨DX_c hD (by rw [e14]) (by rw [e14]) (e 6 (by decide)) hbit e20 e25 (by rw [e 15 (by decide)]; exact hD.2.2.2.2.1) (by rw [e14]; exact hD.2.2.2.2.2), ?_, ?_, R3_c h3 (by rw [e14]) e20 (em 41 (by decide)), R4_c h4 (by rw [e14]) (by rw [e14]) e25 ekw, ?_, ?_, ?_, ?_, ?_, ?_, ?_, ?_, ?_, BK_c hBK (by rw [e14]) (by rw [e14]) (by rw [e14]) e25⟩
  · unfold R1
    rw [e14, m33, e 15 (by decide)]
    exact h1
  · intro i hi
    have h2i := h2 i hi
    refine ⟨?_, ?_⟩
    · rw [e 6 (by decide), h2i.1]
      unfold fpM
      rw [ku_m (by omega)]
    · unfold fpF fpM
      rw [ho]
      simp only [ku, if_true]
      by_cases hi2 : i = n (20 + q) f
      · rw [if_pos hi2, if_pos (by omega), (h2 _ (by omega)).2]
        exact kx_flip (hb.1 _)
      · rw [if_neg hi2, if_neg (by omega)]
        exact h2i.2
  · intro q9 a1 a2
    have := h5 q9 a1 (by rw [e14] at a2; exact a2)
    unfold QW at this ⊢
    rw [em 42 (by decide), em 43 (by decide), em 44 (by decide), e14, e 29 (by decide)]
    exact this
  · intro i hi
    rw [e 15 (by decide)] at hi
    obtain ⟨b1, b2, b3, b4, b5, b6, b7, b8⟩ := h6 i hi
    rw [e 16 (by decide), e 17 (by decide), e 18 (by decide), e14, em 46 (by decide), em 47 (by decide), em 48 (by decide)]
    refine ⟨b1, b2, b3, b4, b5, b6, b7, fun hx9 => ?_⟩
    rw [b8 hx9]
    exact (tq_c (by rw [em 42 (by decide)]) (by rw [em 43 (by decide)]) (by rw [em 44 (by decide)]) (e 6 (by decide)) (e _ (by omega))).symm
  · intro hn
    rw [e14] at hn ⊢
    rw [em 42 (by decide), em 43 (by decide), em 44 (by decide), rg_c (by rw [e14]) (by rw [e14])]
    exact h7 hn
  · unfold R8
    rw [m33, em 42 (by decide), e14, e (25 + m 42 (n 14 0)) (by omega)]
    exact h8
  · intro q9 a1 a2
    rw [m33] at a2
    rw [em 45 (by decide)]
    exact h9 q9 a1 a2
  · refine ⟨fun i => ?_, fun i => by rw [em 46 (by decide)]; exact hb.2 i⟩
    unfold fpM
    simp only [ku, if_true]
    split
    · omega
    · exact hb.1 i
  · rw [e14]; exact hd2
  · exact NB_ku hBn (by have := kx1 (hD.2.2.1 (n (20 + q) f)).2 (show 1 < 2 by decide); omega)
  · exact NB_ku hBm (by omega)
theorem RX_up {n m : Nat → Nat → Nat} (h : RX n m) (hc : n 14 3 < 4) (hall : ∀ b, b < bcF n (n 14 3) → ¬ n (25 + n 14 3) (b * (n 14 4 * 2 ^ n 14 3)) = 4294967295) : RX (ku n 14 3 (n 14 3 + 1)) (ku m 33 7 (m 33 7 + 1)) := by
  obtain ⟨hD, h1, h2, h3, h4, h5, h6, h7, h8, h9, hb, hd2, hBn, hBm, hBK⟩ := h
  have e : ∀ r, r ≠ 14 → ku n 14 3 (n 14 3 + 1) r = n r := fun r hr => ku_row hr
  have em : ∀ r, r ≠ 33 → ku m 33 7 (m 33 7 + 1) r = m r := fun r hr => ku_row hr
  have e20 : ∀ p, p < 4 → ku n 14 3 (n 14 3 + 1) (20 + p) = n (20 + p) := fun p _ => e _ (by omega)
  have e25 : ∀ p, p < 4 → ku n 14 3 (n 14 3 + 1) (25 + p) = n (25 + p) := fun p _ => e _ (by omega)
  have ekw : ∀ p f9 t, kwF (ku m 33 7 (m 33 7 + 1)) p f9 t = kwF m p f9 t := fun p f9 t => kwF_eq (em 42 (by decide)) (em 43 (by decide)) (em 44 (by decide)) (em 45 (by decide)) rfl p f9 t
  refine ⟨DX_c hD rfl rfl rfl (fun i => (hD.2.2.1 i).2) e20 e25 hD.2.2.2.2.1 (by show n 14 3 + 1 ≤ 4; omega), ⟨h1.1, h1.2.1, ?_, h1.2.2.2.1, h1.2.2.2.2.1, h1.2.2.2.2.2⟩, h2, R3_c h3 rfl e20 rfl, R4_c h4 rfl rfl e25 ekw, h5, ?_, h7, ?_, h9, hb, hd2, NB_ku hBn (by omega), NB_ku hBm (by have := h1.2.2.1; omega), ?_⟩
  · show m 33 7 + 1 = n 14 3 + 1
    rw [h1.2.2.1]
  · intro i hi
    obtain ⟨b1, b2, b3, b4, b5, b6, b7, b8⟩ := h6 i hi
    refine ⟨b1, b2, b3, b4, b5, b6, b7, fun hx9 => ?_⟩
    have e9 := b8 hx9
    refine e9.trans (tq_c (n := n) (n' := ku n 14 3 (n 14 3 + 1)) (m := m) (m' := ku m 33 7 (m 33 7 + 1)) (q := n 17 i) rfl rfl rfl rfl ?_).symm
    have hq := h5 (n 17 i) b5 b6
    have := hq.1
    exact e _ (by omega)
  · refine ⟨h8.1, h8.2.1, fun hx9 => ?_⟩
    have e9 := h8.2.2 hx9
    show ku n 14 3 (n 14 3 + 1) (25 + m 42 (n 14 0)) (n 14 1) = 4294967295
    rw [e _ (by omega)]
    exact e9
  · intro p b hp hp3 hb9
    have hp3 : p < n 14 3 + 1 := hp3
    show ¬ ku n 14 3 (n 14 3 + 1) (25 + p) (b * (n 14 4 * 2 ^ p)) = 4294967295
    rw [e _ (by omega)]
    by_cases hpe : p = n 14 3
    · subst hpe
      exact hall b hb9
    · exact hBK p b hp (by omega) hb9
/-- how far the dialogue is from its end -/
def muF (n : Nat → Nat → Nat) : Nat := hamF (n 6) (n 12) (n 14 5) + (4 - n 14 3)
theorem mu_flip {n : Nat → Nat → Nat} (hD : DX n) {q f : Nat} (hq : q < 4) (hf : f < n 14 5) (hne : ¬ n 6 (n (20 + q) f) = n 12 (n (20 + q) f)) : muF (fpF n q f) + 1 = muF n := by
  have hx := hD.2.1 q f hq hf
  have hb6 := (hD.2.2.1 (n (20 + q) f)).1
  have hb12 := (hD.2.2.1 (n (20 + q) f)).2
  have h := hamF_flip (s := n 6) (s' := n 12) (r := fpF n q f 12) (x := n (20 + q) f) (fun i hi => by unfold fpF; exact (ku_m hi).symm) hne (by
    unfold fpF
    rw [ku_s, kx_flip hb12]
    omega) (n 14 5) hx
  show hamF (n 6) (fpF n q f 12) (n 14 5) + (4 - n 14 3) + 1 = hamF (n 6) (n 12) (n 14 5) + (4 - n 14 3)
  omega
theorem fb_lt {r : Nat → Nat} {b : Nat} : ∀ {k j : Nat}, fbF r b k = some j → j < k ∧ r (j * b) = 4294967295
  | 0, j, h => by cases h
  | k + 1, j, h => by
    cases hc : fbF r b k with
    | some x =>
      have ih := fb_lt hc
      simp only [fbF, hc] at h
      cases h
      exact ⟨by omega, ih.2⟩
    | none =>
      simp only [fbF, hc] at h
      split at h
      · cases h
        exact ⟨by omega, by assumption⟩
      · cases h
theorem hv_un {n : Nat → Nat → Nat} {q : Nat} {z : Nat × Nat} (h0 : hvI z z 0) : ∀ k, hvI z (hvF n q z k) k ∨ ((hvF n q z k).2 - (hvF n q z k).1 ≤ 1 ∨ n (25 + q) (mdF (hvF n q z k)) = 4294967295)
  | 0 => Or.inl h0
  | k + 1 => by
    rcases hv_un h0 k with h | h
    · by_cases h1 : (hvF n q z k).2 - (hvF n q z k).1 ≤ 1 ∨ n (25 + q) (mdF (hvF n q z k)) = 4294967295
      · have e := hv_s1 h1 1
        rw [e]
        exact Or.inr h1
      · exact Or.inl (hv_next h (fun x => h1 (Or.inl x)) (fun x => h1 (Or.inr x)) trivial)
    · have e := hv_s1 h 1
      rw [e]
      exact Or.inr h
/-- one round: what is done on both sides -/
theorem st_R {n m : Nat → Nat → Nat} (h : RX n m) (hp : m 33 9 = m 33 8) (hc : n 14 3 < 4) (h512 : n 14 0 < 512) : (stF n).2 = (stM m).2 ∧ RX (stF n).1 (stM m).1 ∧ (((stF n).2 = 0 ∧ (stM m).1 33 9 = (stM m).1 33 8 ∧ (stF n).1 14 0 = n 14 0 ∧ muF (stF n).1 + 1 ≤ muF n) ∨ ((stF n).2 = 1 ∧ (stM m).1 33 9 < (stM m).1 33 8 ∧ (stF n).1 14 0 = n 14 0 + 1)) := by
  have hX := h
  obtain ⟨hD, h1, h2, h3, h4, h5, h6, h7, h8, h9, hb, hd2, hBn, hBm, hBK⟩ := h
  have e7 : m 33 7 = n 14 3 := h1.2.2.1
  have hl : n 14 5 ≤ 128 := hD.1.2.2
  have haf := af_R hD h1 h4 hc
  unfold stF stM
  rw [e7]
  cases hfb : fbF (n (25 + n 14 3)) (n 14 4 * 2 ^ n 14 3) (bcF n (n 14 3)) with
  | some b =>
    have hbb := fb_lt hfb
    have ea := af_some hfb
    have em := afM_some (haf.trans hfb)
    rw [ea, em]
    simp only [show ¬ (1 : Nat) = 0 from by decide, if_false]
    have hlt := blk_lt (n := n) (q := n 14 3) (b := b) (by have := hD.1; omega) hbb.1
    have hbe := be_le (n := n) (q := n 14 3) (f := b * (n 14 4 * 2 ^ n 14 3))
    have hbg := be_gt (n := n) (q := n 14 3) (f := b * (n 14 4 * 2 ^ n 14 3)) hD.1.1 hlt
    rw [h1.1, be_R h1]
    have hr := RX_ask hX hp (q := n 14 3) (f := b * (n 14 4 * 2 ^ n 14 3)) (t := beF n (n 14 3) (b * (n 14 4 * 2 ^ n 14 3))) (mk := b * (n 14 4 * 2 ^ n 14 3)) hc hlt rng_block hbb.2 hbg hbe h512
    exact ⟨trivial, hr.1, Or.inr ⟨trivial, hr.2.2, hr.2.1⟩⟩
  | none =>
    have ea := af_none hfb
    have em := afM_none (haf.trans hfb)
    have hall := fb_all _ hfb
    rw [ea, em]
    simp only [if_true]
    unfold mmF mmM
    have hso := so_R hD h1 h2 h3 h4 (n 14 3 + 1) (by omega)
    rw [show srM m = if (soT m (m 33 7 + 1)).1 = 4294967295 then (m, 0) else if (hzM m).2 - (hzM m).1 ≤ 1 then (fpM m (soT m (m 33 7 + 1)).2 (hzM m).1, 1) else (akM m (soT m (m 33 7 + 1)).2 (hzM m).1 (mdF (hzM m)), 2) from rfl, show hzM m = hvT m (soT m (m 33 7 + 1)).2 ((soT m (m 33 7 + 1)).1, beM m (soT m (m 33 7 + 1)).2 (soT m (m 33 7 + 1)).1) 128 from rfl, e7]
    generalize soF n (n 14 3 + 1) = z at hso ⊢
    generalize soT m (n 14 3 + 1) = z' at hso ⊢
    rcases hso with ⟨z1, z2, z3⟩ | ⟨z1, z2, z3, z4, ⟨b, hb1, hb2⟩, z6⟩
    · rw [if_pos z1, if_pos z3]
      simp only [if_true]
      refine ⟨trivial, ?_, Or.inl ⟨trivial, hp, rfl, ?_⟩⟩
      · have := RX_up hX hc hall
        rw [e7] at this
        exact this
      · show hamF (n 6) (n 12) (n 14 5) + (4 - (n 14 3 + 1)) + 1 ≤ hamF (n 6) (n 12) (n 14 5) + (4 - n 14 3)
        omega
    · obtain ⟨f, q⟩ := z'
      simp only at z1 z2 z3 z4 hb1 hb2 z6
      have hq4 : q < 4 := by omega
      have hd : z.1 / 128 = q := by omega
      have hmo : z.1 % 128 = f := by omega
      rw [if_neg (by omega), hd, hmo]
      simp only [show ¬ f = 4294967295 from by omega, if_false]
      have hv := hv_R hD h1 h2 h3 h4 hq4 hb1 128
      rw [← hb2] at hv
      rw [be_R h1]
      unfold srF
      obtain ⟨v1, v2, v3⟩ := hv
      rw [← v1]
      have hknown : ¬ n (25 + q) f = 4294967295 := by
        by_cases hqe : q = n 14 3
        · subst hqe
          have := hall b hb1
          rw [← hb2] at this
          exact this
        · have := hBK q b hq4 (by omega) hb1
          rw [← hb2] at this
          exact this
      have v4 := v3 hknown z6
      have hbgq := be_gt (n := n) (q := q) (f := f) hD.1.1 z3
      have hblq := be_le (n := n) (q := q) (f := f)
      have hun0 := hv_un (n := n) (q := q) (z := (f, beF n q f)) ⟨hbgq, by show beF n q f - f + 0 ≤ 128; omega, Nat.le_refl _, Nat.le_refl _⟩ 128
      generalize hvF n q (f, beF n q f) 128 = w at v2 v4 hun0 ⊢
      obtain ⟨j, v, j1, j2, j3, j4, r1, r2, r3⟩ := id v2
      have r2 : w.2 ≤ beF n q f := r2
      have hbe := be_le (n := n) (q := q) (f := f)
      by_cases hg : w.2 - w.1 ≤ 1
      · rw [if_pos hg, if_pos hg]
        simp only [show ¬ (1 : Nat) = 0 from by decide, if_false, if_true]
        have hw : w.2 - w.1 = 1 := by omega
        unfold zp op at v4
        rw [hw, parF_1, parF_1] at v4
        refine ⟨trivial, RX_flip hX hq4 (by omega), Or.inl ⟨trivial, hp, rfl, ?_⟩⟩
        have := mu_flip hD hq4 (show w.1 < n 14 5 by omega) v4
        omega
      · rw [if_neg hg, if_neg hg]
        simp only [show ¬ (2 : Nat) = 0 from by decide, show ¬ (2 : Nat) = 1 from by decide, if_false]
        have hm := md_in hg
        have hrg : rgN n q (mdF w) = (w.1, mdF w) := by
          rw [hb2] at v2
          exact node_rng (z := n 14 4) (t := n 14 5) (p := q) (b := b) v2 hg
        have hun : n (25 + q) (mdF w) = 4294967295 := by
          rcases hun0 with ⟨u1, u2, -⟩ | u | u
          · omega
          · exact absurd u hg
          · exact u
        have hr := RX_ask hX hp (q := q) (f := w.1) (t := mdF w) (mk := mdF w) hq4 (by omega) hrg hun hm.1 (by omega) h512
        exact ⟨trivial, hr.1, Or.inr ⟨trivial, hr.2.2, hr.2.1⟩⟩
