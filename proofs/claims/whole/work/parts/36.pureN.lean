/-! pure words: the model's dialogue -/
def MI (n : Nat → Nat → Nat) : Prop := (4 ≤ n 33 6 ∧ n 33 6 ≤ 128 ∧ n 33 6 ≤ n 33 2 ∧ n 33 2 ≤ 128) ∧ NB n ∧ (∀ p i, p < 4 → i < n 33 2 → mO n p i < 128) ∧ (∀ i, n 38 i < 2) ∧ n 33 8 < 512 ∧ n 33 11 ≤ 16 ∧ n 33 7 ≤ 4 ∧ n 33 9 ≤ 512
theorem knP_eq {n m : Nat → Nat → Nat} (h1 : n 42 = m 42) (h2 : n 43 = m 43) (h3 : n 44 = m 44) (p f t : Nat) : ∀ k, knP n p f t k = knP m p f t k
  | 0 => rfl
  | k + 1 => by simp only [knP]; rw [knP_eq h1 h2 h3 p f t k, h1, h2, h3]
theorem kwF_eq {n m : Nat → Nat → Nat} (h1 : n 42 = m 42) (h2 : n 43 = m 43) (h3 : n 44 = m 44) (h4 : n 45 = m 45) (h5 : n 33 9 = m 33 9) (p f t : Nat) : kwF n p f t = kwF m p f t := by
  unfold kwF
  rw [knP_eq h1 h2 h3, h4, h5]
theorem afM_fp {n : Nat → Nat → Nat} {q f r : Nat} : (afM (fpM n q f) r).2 = (afM n r).2 := by
  have e : (fun f2 => kwF (fpM n q f) r f2 (beM (fpM n q f) r f2)) = (fun f2 => kwF n r f2 (beM n r f2)) := by
    funext f2
    rw [show beM (fpM n q f) r f2 = beM n r f2 from rfl]
    exact kwF_eq (n := fpM n q f) (m := n) rfl rfl rfl rfl rfl _ _ _
  unfold afM
  rw [e, show bcM (fpM n q f) r = bcM n r from rfl, show fpM n q f 33 6 = n 33 6 from rfl]
  split <;> rfl
theorem MI_fp {n : Nat → Nat → Nat} (h : MI n) (q f : Nat) : MI (fpM n q f) := by
  obtain ⟨hz, hB, ho, h01, h8, h11, h7, h9⟩ := h
  refine ⟨hz, NB_ku hB (by omega), ho, ?_, h8, h11, h7, h9⟩
  intro i
  unfold fpM
  simp only [ku, if_true]
  split
  · omega
  · exact h01 i
theorem MI_up {n : Nat → Nat → Nat} (h : MI n) (hc : n 33 7 < 4) : MI (ku n 33 7 (n 33 7 + 1)) := by
  obtain ⟨hz, hB, ho, h01, h8, h11, h7, h9⟩ := h
  exact ⟨hz, NB_ku hB (by omega), ho, h01, h8, h11, by show n 33 7 + 1 ≤ 4; omega, h9⟩
theorem srM_1 {n : Nat → Nat → Nat} (h : (srM n).2 = 1) : (srM n).1 = fpM n (soT n (n 33 7 + 1)).2 (hzM n).1 := by
  unfold srM at h ⊢
  split
  · rename_i h0; rw [if_pos h0] at h; exact absurd h (by show ¬ 0 = 1; decide)
  · rename_i h0
    rw [if_neg h0] at h
    split
    · rfl
    · rename_i h1; rw [if_neg h1] at h; exact absurd h (by show ¬ 2 = 1; decide)
theorem mmM_0 {n : Nat → Nat → Nat} (h : (srM n).2 = 0) : mmM n = (ku n 33 7 (n 33 7 + 1), 0) := by unfold mmM; rw [if_pos h]
theorem mmM_1 {n : Nat → Nat → Nat} (h : (srM n).2 = 1) : mmM n = ((srM n).1, 0) := by unfold mmM; rw [if_neg (by omega), if_pos h]
theorem mmM_2 {n : Nat → Nat → Nat} (h : (srM n).2 = 2) : mmM n = ((srM n).1, 1) := by unfold mmM; rw [if_neg (by omega), if_neg (by omega)]
theorem MI_mm {n : Nat → Nat → Nat} (h : MI n) (hc : n 33 7 < 4) (hz : (mmM n).2 = 0) : MI (mmM n).1 := by
  have h3 := srM_three n
  rcases (show (srM n).2 = 0 ∨ (srM n).2 = 1 ∨ (srM n).2 = 2 by omega) with e | e | e
  · rw [mmM_0 e]; exact MI_up h hc
  · rw [mmM_1 e]; show MI (srM n).1; rw [srM_1 e]; exact MI_fp h _ _
  · rw [mmM_2 e] at hz; exact absurd hz (by show ¬ 1 = 0; decide)
theorem MI_go {n : Nat → Nat → Nat} (h : MI n) : ∀ k, (goT n k).2 = 0 → MI (goT n k).1
  | 0, _ => h
  | k + 1, h2 => by
    have ih := MI_go h k
    by_cases h0 : (goT n k).2 = 0
    · have hM := ih h0
      by_cases h4 : (goT n k).1 33 7 = 4
      · rw [show goT n (k + 1) = goT n k from goT_stop (Or.inr h4) 1]; exact hM
      · by_cases ha : (afM (goT n k).1 ((goT n k).1 33 7)).2 = 0
        · rw [goT_m h0 h4 ha] at h2 ⊢
          exact MI_mm hM (by have := hM.2.2.2.2.2.2.1; omega) h2
        · rw [goT_a h0 h4 ha] at h2; exact absurd h2 ha
    · rw [show goT n (k + 1) = goT n k from goT_stop (Or.inl h0) 1] at h2; exact absurd h2 h0
theorem ku_self (n : Nat → Nat → Nat) (i j : Nat) : ku n i j (n i j) = n := by
  funext x y
  simp only [ku]
  split
  · rename_i h; subst h
    split
    · rename_i h; rw [h]
    · rfl
  · rfl
/-- what a letter tells -/
def tlM (n : Nat → Nat → Nat) (k x : Nat) : Nat :=
  if x = 0 then (if n 46 k = 0 then 0 else 1) else if x = 1 then n 47 k else if x = 2 then (if n 46 k = 0 then n 42 (n 47 k) else n 48 k) else if x = 3 then (if n 46 k = 0 then n 43 (n 47 k) else 4294967295) else if x = 4 then (if n 46 k = 0 then n 44 (n 47 k) else 4294967295) else 4294967295
theorem shM_o {n : Nat → Nat → Nat} {k x : Nat} (h : x ≠ 46 ∧ x ≠ 47 ∧ x ≠ 48) : ∀ i, shM n k i x = n x
  | 0 => rfl
  | i + 1 => by
    simp only [shM]
    rw [ku_row h.2.2, ku_row h.2.1, ku_row h.1]
    exact shM_o h i
theorem shM_b {n : Nat → Nat → Nat} {k : Nat} (hb : ∀ i, n 46 i < 2) : ∀ i j, shM n k i 46 j < 2
  | 0, j => hb j
  | i + 1, j => by
    simp only [shM]
    rw [ku_row (by decide), ku_row (by decide)]
    simp only [ku, if_true]
    split
    · exact shM_b hb i _
    · exact shM_b hb i _
