/-! pure: shuffles in two rows; marks; what is left -/
theorem fl_r {n : Nat → Nat → Nat} {q : Nat} : ∀ k i, flF n q k q i = if i < k then i else n q i
  | 0, i => by rw [if_neg (by omega)]; rfl
  | k + 1, i => by
    simp only [flF]
    rw [ku_r, fl_r k i]
    by_cases hx : i = k
    · rw [if_pos hx, if_pos (by omega), hx]
    · rw [if_neg hx]
      by_cases hy : i < k
      · rw [if_pos hy, if_pos (by omega)]
      · rw [if_neg hy, if_neg (by omega)]
theorem fi_r {n : Nat → Nat → Nat} {q v : Nat} : ∀ k i, fiF n q v k q i = if i < k then v else n q i
  | 0, i => by rw [if_neg (by omega)]; rfl
  | k + 1, i => by
    simp only [fiF]
    rw [ku_r, fi_r k i]
    by_cases hx : i = k
    · rw [if_pos hx, if_pos (by omega)]
    · rw [if_neg hx]
      by_cases hy : i < k
      · rw [if_pos hy, if_pos (by omega)]
      · rw [if_neg hy, if_neg (by omega)]
theorem sw_r {n : Nat → Nat → Nat} {q z t k i : Nat} : (swP n q z t (k + 1)).1 q i = if i = t - 1 - k then (swP n q z t k).1 q (drV (swP n q z t k).2 (t - 1 - k + 1)) else if i = drV (swP n q z t k).2 (t - 1 - k + 1) then (swP n q z t k).1 q (t - 1 - k) else (swP n q z t k).1 q i := by
  simp only [swP]
  rw [ku_r, ku_r]
theorem sw_R {n n' : Nat → Nat → Nat} {q q' z t : Nat} : ∀ k, k < t → (swP n q z t k).2 = (swP n' q' z t k).2 ∧ ∀ i, i < t → (swP n q z t k).1 q i = (swP n' q' z t k).1 q' i
  | 0, _ => by
    refine ⟨rfl, fun i hi => ?_⟩
    show flF n q t q i = flF n' q' t q' i
    rw [fl_r, fl_r, if_pos hi, if_pos hi]
  | k + 1, hk => by
    obtain ⟨ih1, ih2⟩ := sw_R (n := n) (n' := n') (q := q) (q' := q') (z := z) (t := t) k (by omega)
    refine ⟨?_, fun i hi => ?_⟩
    · show drS (swP n q z t k).2 _ = drS (swP n' q' z t k).2 _
      rw [ih1]
    · have hd := drV_lt (s := (swP n' q' z t k).2) (k := t - 1 - k + 1) (by omega)
      rw [sw_r, sw_r, ih1, ih2 _ (by omega), ih2 (t - 1 - k) (by omega), ih2 i hi]
theorem sw_lt {n : Nat → Nat → Nat} {q z t : Nat} : ∀ k, k < t → ∀ i, i < t → (swP n q z t k).1 q i < t
  | 0, _, i, hi => by
    show flF n q t q i < t
    rw [fl_r, if_pos hi]
    exact hi
  | k + 1, hk, i, hi => by
    have ih := sw_lt (n := n) (q := q) (z := z) (t := t) k (by omega)
    have hd := drV_lt (s := (swP n q z t k).2) (k := t - 1 - k + 1) (by omega)
    rw [sw_r]
    split
    · exact ih _ (by omega)
    · split
      · exact ih _ (by omega)
      · exact ih _ hi
theorem sw_inj {n : Nat → Nat → Nat} {q z t : Nat} : ∀ k, k < t → ∀ i j, i < t → j < t → (swP n q z t k).1 q i = (swP n q z t k).1 q j → i = j
  | 0, _, i, j, hi, hj, h => by
    have h : flF n q t q i = flF n q t q j := h
    rw [fl_r, fl_r, if_pos hi, if_pos hj] at h
    exact h
  | k + 1, hk, i, j, hi, hj, h => by
    have ih := sw_inj (n := n) (q := q) (z := z) (t := t) k (by omega)
    have hd := drV_lt (s := (swP n q z t k).2) (k := t - 1 - k + 1) (by omega)
    generalize hy : drV (swP n q z t k).2 (t - 1 - k + 1) = y at hd
    have hx : t - 1 - k < t := by omega
    rw [sw_r, sw_r, hy] at h
    by_cases i1 : i = t - 1 - k
    · rw [if_pos i1] at h
      by_cases j1 : j = t - 1 - k
      · omega
      · rw [if_neg j1] at h
        by_cases j2 : j = y
        · rw [if_pos j2] at h
          have := ih _ _ (by omega) hx h
          omega
        · rw [if_neg j2] at h
          have := ih _ _ (by omega) hj h
          omega
    · rw [if_neg i1] at h
      by_cases i2 : i = y
      · rw [if_pos i2] at h
        by_cases j1 : j = t - 1 - k
        · rw [if_pos j1] at h
          have := ih _ _ hx (by omega) h
          omega
        · rw [if_neg j1] at h
          by_cases j2 : j = y
          · omega
          · rw [if_neg j2] at h
            have := ih _ _ hx hj h
            omega
      · rw [if_neg i2] at h
        by_cases j1 : j = t - 1 - k
        · rw [if_pos j1] at h
          have := ih _ _ hi (by omega) h
          omega
        · rw [if_neg j1] at h
          by_cases j2 : j = y
          · rw [if_pos j2] at h
            have := ih _ _ hi hx h
            omega
          · rw [if_neg j2] at h
            exact ih _ _ hi hj h
theorem shu_R {n n' : Nat → Nat → Nat} {q q' z t : Nat} {i : Nat} (hi : i < t) : shuF n q z t q i = shuF n' q' z t q' i := by
  unfold shuF
  rw [if_neg (by omega), if_neg (by omega)]
  exact (sw_R (t - 1) (by omega)).2 i hi
theorem shu_lt {n : Nat → Nat → Nat} {q z t : Nat} {i : Nat} (hi : i < t) : shuF n q z t q i < t := by
  unfold shuF
  rw [if_neg (by omega)]
  exact sw_lt (t - 1) (by omega) i hi
theorem shu_inj {n : Nat → Nat → Nat} {q z t : Nat} {i j : Nat} (hi : i < t) (hj : j < t) (h : shuF n q z t q i = shuF n q z t q j) : i = j := by
  unfold shuF at h
  rw [if_neg (by omega)] at h
  exact sw_inj (t - 1) (by omega) i j hi hj h
theorem xor_ne {x y : Nat} (hx : x < 2) (hy : y < 2) : x ^^^ y = if x = y then 0 else 1 := by
  rcases (show x = 0 ∨ x = 1 by omega) with rfl | rfl <;> rcases (show y = 0 ∨ y = 1 by omega) with rfl | rfl <;> rfl
theorem ct_1 {r : Nat → Nat} {x t : Nat} (hx : x < t) (hz : r x = 0) : ctF (fun i => if i = x then 1 else r i) t = ctF r t + 1 := by
  have := ct_rng (r := r) (r' := fun i => if i = x then 1 else r i) (f := x) (k := 1) (fun i => by
    show (if i = x then 1 else r i) = _
    by_cases hi : i = x
    · rw [if_pos hi, if_pos (by omega)]
    · rw [if_neg hi, if_neg (by omega)]) (fun j hj => by rw [show x + j = x by omega]; exact hz) t
  rw [this, if_neg (by omega)]
  split <;> omega
theorem sm_R {A B : Nat → Nat → Nat} {t : Nat} (ht : t ≤ 128) (hp : ∀ i, i < t → A 30 i = B 39 i) (hlt : ∀ i, i < t → B 39 i < t) (hinj : ∀ i j, i < t → j < t → B 39 i = B 39 j → i = j) (hS : ∀ i, i < 128 → A 6 i = B 38 i ∧ A 12 i = B 38 (128 + i)) (hb : ∀ i, A 6 i < 2 ∧ A 12 i < 2) (hz : ∀ i, i < 128 → A 31 i = 0 ∧ B 40 i = 0) : ∀ k, k ≤ t → (smP A k).2 = (smM B k).2 ∧ (∀ i, i < 128 → (smP A k).1 31 i = (smM B k).1 40 i) ∧ ctF ((smM B k).1 40) t = k ∧ ∀ j, k ≤ j → j < t → (smM B k).1 40 (B 39 j) = 0
  | 0, _ => by
    refine ⟨rfl, fun i hi => ?_, ?_, fun j _ hj => ?_⟩
    · show A 31 i = B 40 i
      rw [(hz i hi).1, (hz i hi).2]
    · show ctF (B 40) t = 0
      have : ∀ k, k ≤ 128 → ctF (B 40) k = 0 := fun k => by
        induction k with
        | zero => intro _; rfl
        | succ k ih => intro hk; simp only [ctF]; rw [if_pos (hz k (by omega)).2]; exact ih (by omega)
      exact this t ht
    · show B 40 (B 39 j) = 0
      have := hlt j hj
      exact (hz _ (by omega)).2
  | k + 1, hk => by
    obtain ⟨ih1, ih2, ih3, ih4⟩ := sm_R ht hp hlt hinj hS hb hz k (by omega)
    have e30 : (smP A k).1 30 = A 30 := smP_o (by decide) k
    have e6 : (smP A k).1 6 = A 6 := smP_o (by decide) k
    have e12 : (smP A k).1 12 = A 12 := smP_o (by decide) k
    have e39 : (smM B k).1 39 = B 39 := smM_o (by decide) k
    have e38 : (smM B k).1 38 = B 38 := smM_o (by decide) k
    have hx := hlt k (by omega)
    have hx0 := ih4 k (Nat.le_refl _) (by omega)
    simp only [smP, smM]
    rw [e30, e39, hp k (by omega), e38]
    obtain ⟨s1, s2⟩ := hS (B 39 k) (by omega)
    obtain ⟨b1, b2⟩ := hb (B 39 k)
    refine ⟨?_, fun i hi => ?_, ?_, fun j hkj hj => ?_⟩
    · rw [ku_n (by decide), ku_n (by decide), e6, e12, xor_ne b1 b2, s1, s2, ih1]
      split <;> rfl
    · rw [ku_r, ku_r, ih2 i hi]
    · have e : ku (smM B k).1 40 (B 39 k) 1 40 = fun i => if i = B 39 k then 1 else (smM B k).1 40 i := by
        funext i
        rw [ku_r]
      rw [e, ct_1 hx hx0, ih3]
    · rw [ku_r, if_neg (fun q => by have := hinj j k hj (by omega) q; omega)]
      exact ih4 j (by omega) hj
theorem lv_R {A B : Nat → Nat → Nat} {c o : Nat} (hc : c ≠ 31) (ho : o = 0 ∨ o = 128) (hq : ∀ i, i < 128 → A 31 i = B 40 i) (hS : ∀ i, i < 128 → A c i = B 38 (o + i)) : ∀ k, k ≤ 128 → (lvP A c 31 k).2 = (lvM B k).2 ∧ ∀ i, i < 128 → (lvP A c 31 k).1 c i = (lvM B k).1 38 (o + i)
  | 0, _ => ⟨rfl, hS⟩
  | k + 1, hk => by
    obtain ⟨ih1, ih2⟩ := lv_R hc ho hq hS k (by omega)
    have e31 : (lvP A c 31 k).1 31 = A 31 := lvP_o (Ne.symm hc) k
    have e40 : (lvM B k).1 40 = B 40 := lvM_o (by decide) k
    have hle := lvM_le B k
    simp only [lvP, lvM]
    rw [e31, e40, hq k (by omega)]
    by_cases hz : B 40 k = 0
    · rw [if_pos hz, if_pos hz]
      refine ⟨by show (lvP A c 31 k).2 + 1 = (lvM B k).2 + 1; rw [ih1], fun i hi => ?_⟩
      show ku (lvP A c 31 k).1 c (lvP A c 31 k).2 ((lvP A c 31 k).1 c k) c i = ku (ku (lvM B k).1 38 (lvM B k).2 ((lvM B k).1 38 k)) 38 (128 + (lvM B k).2) (ku (lvM B k).1 38 (lvM B k).2 ((lvM B k).1 38 k) 38 (128 + k)) 38 (o + i)
      rw [ku_r, ku_r, ku_r, ku_r, ih1, ih2 k (by omega), ih2 i hi, if_neg (show ¬ 128 + k = (lvM B k).2 by omega)]
      rcases ho with rfl | rfl
      · rw [if_neg (show ¬ 0 + i = 128 + (lvM B k).2 by omega)]
        by_cases hx : i = (lvM B k).2
        · rw [if_pos hx, if_pos (by omega), Nat.zero_add]
        · rw [if_neg hx, if_neg (by omega)]
      · by_cases hx : i = (lvM B k).2
        · rw [if_pos hx, if_pos (by omega)]
        · rw [if_neg hx, if_neg (by omega), if_neg (by omega)]
    · rw [if_neg hz, if_neg hz]
      exact ⟨ih1, ih2⟩
theorem lvM_ct {B : Nat → Nat → Nat} : ∀ k, (lvM B k).2 + ctF (B 40) k = k
  | 0 => rfl
  | k + 1 => by
    have ih := lvM_ct (B := B) k
    have e40 : (lvM B k).1 40 = B 40 := lvM_o (by decide) k
    simp only [lvM, ctF]
    rw [e40]
    by_cases hz : B 40 k = 0
    · rw [if_pos hz, if_pos hz]
      show (lvM B k).2 + 1 + ctF (B 40) k = k + 1
      omega
    · rw [if_neg hz, if_neg hz]
      omega
theorem lvP_b {n : Nat → Nat → Nat} {c q : Nat} (h : ∀ i, n c i < 2) : ∀ k i, (lvP n c q k).1 c i < 2
  | 0, i => h i
  | k + 1, i => by
    have ih := lvP_b (q := q) h k
    simp only [lvP]
    split
    · dsimp only
      rw [ku_r]
      exact if_lt2 (ih _) (ih _)
    · exact ih i
theorem lvM_b {n : Nat → Nat → Nat} (h : ∀ i, n 38 i < 2) : ∀ k i, (lvM n k).1 38 i < 2
  | 0, i => h i
  | k + 1, i => by
    have ih := lvM_b h k
    simp only [lvM]
    split
    · dsimp only
      rw [ku_r, ku_r, ku_r]
      exact if_lt2 (if_lt2 (ih _) (ih _)) (if_lt2 (ih _) (ih _))
    · exact ih i
theorem IRc_c {n n2 : Nat → Nat → Nat} (h : IRc n) (hr : ∀ r, (r = 1 ∨ r = 2 ∨ r = 3 ∨ r = 4 ∨ (7 ≤ r ∧ r < 12) ∨ (34 ≤ r ∧ r < 38)) → n2 r = n r) : IRc n2 := by
  unfold IRc
  rw [hr 1 (by omega), hr 2 (by omega), hr 3 (by omega), hr 4 (by omega), hr 7 (by omega), hr 8 (by omega), hr 9 (by omega), hr 10 (by omega), hr 11 (by omega), hr 34 (by omega), hr 35 (by omega), hr 36 (by omega), hr 37 (by omega)]
  exact h
