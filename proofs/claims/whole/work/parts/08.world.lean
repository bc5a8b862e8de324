/-! the world of both: 52 cells at addresses a, their numbers n, their longs g. Printed by wip/gen/gen08.py -/
def ku (n : Nat → Nat → Nat) (i j v : Nat) : Nat → Nat → Nat := fun x y => if x = i then (if y = j then v else n x y) else n x y
def kg (g : Nat → Nat) (i v : Nat) : Nat → Nat := fun x => if x = i then v else g x
theorem ku_s (n : Nat → Nat → Nat) (i j v : Nat) : ku n i j v i j = v := by simp [ku]
theorem ku_n {n : Nat → Nat → Nat} {i j v x y : Nat} (h : x ≠ i) : ku n i j v x y = n x y := by simp [ku, h]
theorem ku_m {n : Nat → Nat → Nat} {i j v x y : Nat} (h : y ≠ j) : ku n i j v x y = n x y := by simp [ku, h]
theorem ku_row {n : Nat → Nat → Nat} {i j v x : Nat} (h : x ≠ i) : ku n i j v x = n x := by funext y; exact ku_n h
theorem kg_s (g : Nat → Nat) (i v : Nat) : kg g i v i = v := by simp [kg]
theorem kg_n {g : Nat → Nat} {i v x : Nat} (h : x ≠ i) : kg g i v x = g x := by simp [kg, h]
abbrev jTy (d : Nat → Nat) : List (ClassId × FieldType) := [(d 0, .int), (d 1, .boolean), (d 2, .long), (d 3, .array .int)]
def jE (d a : Nat → Nat) (n : Nat → Nat → Nat) (g : Nat → Nat) : Nat → va_E
  | 0 => .inr (4, [.ref (a 1), .ref (a 7), .ref (a 13), .ref (a 14), .ref (a 30), .ref (a 31), .ref (a 32), .int (nI (n 0 0)), .int (nI (n 0 1)), .int (nI (n 0 2)), .int (nI (n 0 3))])
  | 1 => .inr (0, [.ref (a 2), .ref (a 3), .ref (a 4), .ref (a 5), .ref (a 6), .int (nI (n 1 0))])
  | 2 => .inl (d 1, 128, .inl (fun j => nI (n 2 j)))
  | 3 => .inl (d 0, 128, .inl (fun j => nI (n 3 j)))
  | 4 => .inl (d 0, 128, .inl (fun j => nI (n 4 j)))
  | 5 => .inl (d 0, 128, .inl (fun j => nI (n 5 j)))
  | 6 => .inl (d 0, 128, .inl (fun j => nI (n 6 j)))
  | 7 => .inr (0, [.ref (a 8), .ref (a 9), .ref (a 10), .ref (a 11), .ref (a 12), .int (nI (n 7 0))])
  | 8 => .inl (d 1, 128, .inl (fun j => nI (n 8 j)))
  | 9 => .inl (d 0, 128, .inl (fun j => nI (n 9 j)))
  | 10 => .inl (d 0, 128, .inl (fun j => nI (n 10 j)))
  | 11 => .inl (d 0, 128, .inl (fun j => nI (n 11 j)))
  | 12 => .inl (d 0, 128, .inl (fun j => nI (n 12 j)))
  | 13 => .inr (1, [.long (lN (g 0))])
  | 14 => .inr (3, [.ref (a 1), .ref (a 7), .ref (a 15), .ref (a 19), .ref (a 24), .ref (a 29), .int (nI (n 14 0)), .int (nI (n 14 1)), .int (nI (n 14 2)), .int (nI (n 14 3)), .int (nI (n 14 4)), .int (nI (n 14 5))])
  | 15 => .inr (2, [.ref (a 16), .ref (a 17), .ref (a 18), .int (nI (n 15 0))])
  | 16 => .inl (d 0, 16, .inl (fun j => nI (n 16 j)))
  | 17 => .inl (d 0, 16, .inl (fun j => nI (n 17 j)))
  | 18 => .inl (d 0, 16, .inl (fun j => nI (n 18 j)))
  | 19 => .inl (d 3, 4, .inr (.inr (.inr (.inr (fun j => some (a (20 + j)))))))
  | 20 => .inl (d 0, 128, .inl (fun j => nI (n 20 j)))
  | 21 => .inl (d 0, 128, .inl (fun j => nI (n 21 j)))
  | 22 => .inl (d 0, 128, .inl (fun j => nI (n 22 j)))
  | 23 => .inl (d 0, 128, .inl (fun j => nI (n 23 j)))
  | 24 => .inl (d 3, 4, .inr (.inr (.inr (.inr (fun j => some (a (25 + j)))))))
  | 25 => .inl (d 0, 128, .inl (fun j => nI (n 25 j)))
  | 26 => .inl (d 0, 128, .inl (fun j => nI (n 26 j)))
  | 27 => .inl (d 0, 128, .inl (fun j => nI (n 27 j)))
  | 28 => .inl (d 0, 128, .inl (fun j => nI (n 28 j)))
  | 29 => .inl (d 0, 512, .inl (fun j => nI (n 29 j)))
  | 30 => .inl (d 0, 128, .inl (fun j => nI (n 30 j)))
  | 31 => .inl (d 0, 128, .inl (fun j => nI (n 31 j)))
  | 32 => .inl (d 0, 256, .inl (fun j => nI (n 32 j)))
  | 33 => .inr (5, [.int (nI (n 33 0)), .ref (a 34), .ref (a 35), .ref (a 36), .ref (a 37), .int (nI (n 33 1)), .int (nI (n 33 2)), .ref (a 38), .int (nI (n 33 3)), .int (nI (n 33 4)), .long (lN (g 1)), .ref (a 39), .ref (a 40), .int (nI (n 33 5)), .int (nI (n 33 6)), .int (nI (n 33 7)), .ref (a 41), .int (nI (n 33 8)), .int (nI (n 33 9)), .int (nI (n 33 10)), .ref (a 42), .ref (a 43), .ref (a 44), .ref (a 45), .int (nI (n 33 11)), .ref (a 46), .ref (a 47), .ref (a 48), .int (nI (n 33 12)), .ref (a 49), .ref (a 50)])
  | 34 => .inl (d 1, 256, .inl (fun j => nI (n 34 j)))
  | 35 => .inl (d 0, 256, .inl (fun j => nI (n 35 j)))
  | 36 => .inl (d 0, 256, .inl (fun j => nI (n 36 j)))
  | 37 => .inl (d 1, 128, .inl (fun j => nI (n 37 j)))
  | 38 => .inl (d 0, 256, .inl (fun j => nI (n 38 j)))
  | 39 => .inl (d 0, 128, .inl (fun j => nI (n 39 j)))
  | 40 => .inl (d 1, 128, .inl (fun j => nI (n 40 j)))
  | 41 => .inl (d 0, 512, .inl (fun j => nI (n 41 j)))
  | 42 => .inl (d 0, 700, .inl (fun j => nI (n 42 j)))
  | 43 => .inl (d 0, 700, .inl (fun j => nI (n 43 j)))
  | 44 => .inl (d 0, 700, .inl (fun j => nI (n 44 j)))
  | 45 => .inl (d 0, 700, .inl (fun j => nI (n 45 j)))
  | 46 => .inl (d 1, 17, .inl (fun j => nI (n 46 j)))
  | 47 => .inl (d 0, 17, .inl (fun j => nI (n 47 j)))
  | 48 => .inl (d 0, 17, .inl (fun j => nI (n 48 j)))
  | 49 => .inl (d 0, 256, .inl (fun j => nI (n 49 j)))
  | 50 => .inl (d 0, 256, .inl (fun j => nI (n 50 j)))
  | _ => .inl (d 2, 1, .inr (.inl (fun _ => lN (g 2))))
def jW (d a : Nat → Nat) (n : Nat → Nat → Nat) (g : Nat → Nat) : va_W := (List.range 52).map (fun i => (a i, jE d a n g i))
theorem jW_g {d a : Nat → Nat} {n : Nat → Nat → Nat} {g : Nat → Nat} (i : Nat) (h : i < 52) : (jW d a n g)[i]? = some (a i, jE d a n g i) := by
  unfold jW
  rw [List.getElem?_map, List.getElem?_range h]
  rfl
theorem jW_s {d a : Nat → Nat} {n n2 : Nat → Nat → Nat} {g g2 : Nat → Nat} (i : Nat) {e : va_E} (h : jE d a n2 g2 i = e) (ho : ∀ k, k < 52 → k ≠ i → jE d a n2 g2 k = jE d a n g k) : (jW d a n g).set i (a i, e) = jW d a n2 g2 := by
  apply List.ext_getElem?
  intro k
  by_cases hk : k < 52
  · by_cases hi : k = i
    · subst hi
      rw [List.getElem?_set_self (by simp [jW]; exact hk), jW_g k hk, h]
    · rw [List.getElem?_set_ne (fun z => hi z.symm), jW_g k hk, jW_g k hk, ho k hk hi]
  · rw [List.getElem?_eq_none (by simp [jW]; omega), List.getElem?_eq_none (by simp [jW]; omega)]
theorem jE_c {d a : Nat → Nat} {n n2 : Nat → Nat → Nat} {g g2 : Nat → Nat} (h : n = n2) (h2 : g = g2) : jE d a n g = jE d a n2 g2 := by rw [h, h2]
theorem jE_n {d a : Nat → Nat} {n n2 : Nat → Nat → Nat} {g g2 : Nat → Nat} : ∀ k, k < 52 → n k = n2 k → (k = 13 → g 0 = g2 0) → (k = 33 → g 1 = g2 1) → (k = 51 → g 2 = g2 2) → jE d a n g k = jE d a n2 g2 k := by
  intro k hk h h0 h1 h2
  rcases (show k = 0 ∨ k = 1 ∨ k = 2 ∨ k = 3 ∨ k = 4 ∨ k = 5 ∨ k = 6 ∨ k = 7 ∨ k = 8 ∨ k = 9 ∨ k = 10 ∨ k = 11 ∨ k = 12 ∨ k = 13 ∨ k = 14 ∨ k = 15 ∨ k = 16 ∨ k = 17 ∨ k = 18 ∨ k = 19 ∨ k = 20 ∨ k = 21 ∨ k = 22 ∨ k = 23 ∨ k = 24 ∨ k = 25 ∨ k = 26 ∨ k = 27 ∨ k = 28 ∨ k = 29 ∨ k = 30 ∨ k = 31 ∨ k = 32 ∨ k = 33 ∨ k = 34 ∨ k = 35 ∨ k = 36 ∨ k = 37 ∨ k = 38 ∨ k = 39 ∨ k = 40 ∨ k = 41 ∨ k = 42 ∨ k = 43 ∨ k = 44 ∨ k = 45 ∨ k = 46 ∨ k = 47 ∨ k = 48 ∨ k = 49 ∨ k = 50 ∨ k = 51 by omega) with rfl | rfl | rfl | rfl | rfl | rfl | rfl | rfl | rfl | rfl | rfl | rfl | rfl | rfl | rfl | rfl | rfl | rfl | rfl | rfl | rfl | rfl | rfl | rfl | rfl | rfl | rfl | rfl | rfl | rfl | rfl | rfl | rfl | rfl | rfl | rfl | rfl | rfl | rfl | rfl | rfl | rfl | rfl | rfl | rfl | rfl | rfl | rfl | rfl | rfl | rfl | rfl
  · simp only [jE, h]
  · simp only [jE, h]
  · simp only [jE, h]
  · simp only [jE, h]
  · simp only [jE, h]
  · simp only [jE, h]
  · simp only [jE, h]
  · simp only [jE, h]
  · simp only [jE, h]
  · simp only [jE, h]
  · simp only [jE, h]
  · simp only [jE, h]
  · simp only [jE, h]
  · simp only [jE, h0 rfl]
  · simp only [jE, h]
  · simp only [jE, h]
  · simp only [jE, h]
  · simp only [jE, h]
  · simp only [jE, h]
  · rfl
  · simp only [jE, h]
  · simp only [jE, h]
  · simp only [jE, h]
  · simp only [jE, h]
  · rfl
  · simp only [jE, h]
  · simp only [jE, h]
  · simp only [jE, h]
  · simp only [jE, h]
  · simp only [jE, h]
  · simp only [jE, h]
  · simp only [jE, h]
  · simp only [jE, h]
  · simp only [jE, h, h1 rfl]
  · simp only [jE, h]
  · simp only [jE, h]
  · simp only [jE, h]
  · simp only [jE, h]
  · simp only [jE, h]
  · simp only [jE, h]
  · simp only [jE, h]
  · simp only [jE, h]
  · simp only [jE, h]
  · simp only [jE, h]
  · simp only [jE, h]
  · simp only [jE, h]
  · simp only [jE, h]
  · simp only [jE, h]
  · simp only [jE, h]
  · simp only [jE, h]
  · simp only [jE, h]
  · simp only [jE, h2 rfl]
/-- a number is written -/
theorem jW_u {d a : Nat → Nat} {n : Nat → Nat → Nat} {g : Nat → Nat} (i j v : Nat) {e : va_E} (h : jE d a (ku n i j v) g i = e) : (jW d a n g).set i (a i, e) = jW d a (ku n i j v) g :=
  jW_s i h (fun k hk hi => jE_n k hk (ku_row hi) (fun _ => rfl) (fun _ => rfl) (fun _ => rfl))
theorem jW_l {d a : Nat → Nat} {n : Nat → Nat → Nat} {g : Nat → Nat} (i j v : Nat) (hij : (i = 13 ∧ j = 0) ∨ (i = 33 ∧ j = 1) ∨ (i = 51 ∧ j = 2)) {e : va_E} (h : jE d a n (kg g j v) i = e) : (jW d a n g).set i (a i, e) = jW d a n (kg g j v) :=
  jW_s i h (fun k hk hi => jE_n k hk rfl (fun z => kg_n (by omega)) (fun z => kg_n (by omega)) (fun z => kg_n (by omega)))
theorem ku_fun (n : Nat → Nat → Nat) (i j v : Nat) : (fun y => nI (ku n i j v i y)) = upd (fun y => nI (n i y)) j (nI v) := by
  funext y
  by_cases h : y = j
  · subst h; simp [ku, upd]
  · simp [ku, upd, h]
/-- where the rows of ints lie, and how long they are -/
def jI : Nat → Nat
  | 3 => 128
  | 4 => 128
  | 5 => 128
  | 6 => 128
  | 9 => 128
  | 10 => 128
  | 11 => 128
  | 12 => 128
  | 16 => 16
  | 17 => 16
  | 18 => 16
  | 20 => 128
  | 21 => 128
  | 22 => 128
  | 23 => 128
  | 25 => 128
  | 26 => 128
  | 27 => 128
  | 28 => 128
  | 29 => 512
  | 30 => 128
  | 31 => 128
  | 32 => 256
  | 35 => 256
  | 36 => 256
  | 38 => 256
  | 39 => 128
  | 41 => 512
  | 42 => 700
  | 43 => 700
  | 44 => 700
  | 45 => 700
  | 47 => 17
  | 48 => 17
  | 49 => 256
  | 50 => 256
  | _ => 0
def jZ : Nat → Nat
  | 2 => 128
  | 8 => 128
  | 34 => 256
  | 37 => 128
  | 40 => 128
  | 46 => 17
  | _ => 0
theorem jE_I {d a : Nat → Nat} {n : Nat → Nat → Nat} {g : Nat → Nat} : ∀ i, i < 52 → 0 < jI i → jE d a n g i = .inl (d 0, jI i, .inl (fun j => nI (n i j))) := by
  intro i hi h
  rcases (show i = 0 ∨ i = 1 ∨ i = 2 ∨ i = 3 ∨ i = 4 ∨ i = 5 ∨ i = 6 ∨ i = 7 ∨ i = 8 ∨ i = 9 ∨ i = 10 ∨ i = 11 ∨ i = 12 ∨ i = 13 ∨ i = 14 ∨ i = 15 ∨ i = 16 ∨ i = 17 ∨ i = 18 ∨ i = 19 ∨ i = 20 ∨ i = 21 ∨ i = 22 ∨ i = 23 ∨ i = 24 ∨ i = 25 ∨ i = 26 ∨ i = 27 ∨ i = 28 ∨ i = 29 ∨ i = 30 ∨ i = 31 ∨ i = 32 ∨ i = 33 ∨ i = 34 ∨ i = 35 ∨ i = 36 ∨ i = 37 ∨ i = 38 ∨ i = 39 ∨ i = 40 ∨ i = 41 ∨ i = 42 ∨ i = 43 ∨ i = 44 ∨ i = 45 ∨ i = 46 ∨ i = 47 ∨ i = 48 ∨ i = 49 ∨ i = 50 ∨ i = 51 by omega) with rfl | rfl | rfl | rfl | rfl | rfl | rfl | rfl | rfl | rfl | rfl | rfl | rfl | rfl | rfl | rfl | rfl | rfl | rfl | rfl | rfl | rfl | rfl | rfl | rfl | rfl | rfl | rfl | rfl | rfl | rfl | rfl | rfl | rfl | rfl | rfl | rfl | rfl | rfl | rfl | rfl | rfl | rfl | rfl | rfl | rfl | rfl | rfl | rfl | rfl | rfl | rfl <;> first | rfl | exact absurd h (by decide)
theorem jE_Z {d a : Nat → Nat} {n : Nat → Nat → Nat} {g : Nat → Nat} : ∀ i, i < 52 → 0 < jZ i → jE d a n g i = .inl (d 1, jZ i, .inl (fun j => nI (n i j))) := by
  intro i hi h
  rcases (show i = 0 ∨ i = 1 ∨ i = 2 ∨ i = 3 ∨ i = 4 ∨ i = 5 ∨ i = 6 ∨ i = 7 ∨ i = 8 ∨ i = 9 ∨ i = 10 ∨ i = 11 ∨ i = 12 ∨ i = 13 ∨ i = 14 ∨ i = 15 ∨ i = 16 ∨ i = 17 ∨ i = 18 ∨ i = 19 ∨ i = 20 ∨ i = 21 ∨ i = 22 ∨ i = 23 ∨ i = 24 ∨ i = 25 ∨ i = 26 ∨ i = 27 ∨ i = 28 ∨ i = 29 ∨ i = 30 ∨ i = 31 ∨ i = 32 ∨ i = 33 ∨ i = 34 ∨ i = 35 ∨ i = 36 ∨ i = 37 ∨ i = 38 ∨ i = 39 ∨ i = 40 ∨ i = 41 ∨ i = 42 ∨ i = 43 ∨ i = 44 ∨ i = 45 ∨ i = 46 ∨ i = 47 ∨ i = 48 ∨ i = 49 ∨ i = 50 ∨ i = 51 by omega) with rfl | rfl | rfl | rfl | rfl | rfl | rfl | rfl | rfl | rfl | rfl | rfl | rfl | rfl | rfl | rfl | rfl | rfl | rfl | rfl | rfl | rfl | rfl | rfl | rfl | rfl | rfl | rfl | rfl | rfl | rfl | rfl | rfl | rfl | rfl | rfl | rfl | rfl | rfl | rfl | rfl | rfl | rfl | rfl | rfl | rfl | rfl | rfl | rfl | rfl | rfl | rfl <;> first | rfl | exact absurd h (by decide)
