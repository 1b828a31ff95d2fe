/-! NEW ONES: their pictures -/
def offT : List (List Nat) := [[0], [1], [2], [3], [4], [5], [6], [7], [8], [9], [10], [11], [12], [13, 21], [14, 22], [15, 23], [16, 24], [17, 25], [18, 26], [19, 27], [20], [28], [29], [30, 31, 32, 33], [34], [35, 36, 37, 38], [39], [40], [41], [42], [43], [44], [45], []]
def offs (k i : Nat) : Nat := if k = 23 then 30 + i else if k = 25 then 35 + i else (offT.getD k []).getD i 0
def Q00 (b : Nat) : Qt := (fun k i => b + offs k i, 0, 1)
def Qz0 : Qt := (fun _ _ => 0, 0, 1)
def g48 : Nat → Int32 := upd (upd (upd (upd (fun _ => 0) 0 (-1)) 1 (-1)) 2 (-1)) 3 (-1)
def g70 : Nat → Int32 := upd (upd (upd (fun _ => 0) 0 0) 1 (-2)) 2 (-3)
def g150 : Nat → Int32 := upd (upd (upd (fun _ => 0) 0 1) 1 2) 2 3
/-- the state of new ones -/
def S00 : MS := fun k => if k = 48 then g48 else if k = 16 then (fun _ => 1) else if k = 160 then (fun _ => 3) else if k = 70 then g70 else if k = 150 then g150 else fun _ => 0
def LC0 (G : Gt) (b : Nat) : List va_E := [.inr (11, [.ref (b + 1), .ref (b + 8), .int 0, .ref (b + 9), .ref (b + 12), .int 1, .ref (b + 41), .int 0, .ref (b + 13), .ref (b + 20), .int 0, .int 0, .int 0, .ref (b + 34), .ref (b + 39), .ref (b + 40)]), .inr (10, [.ref (b + 2), .ref (b + 3), .ref (b + 4), .ref (b + 5), .int 0, .ref (b + 6), .ref (b + 7), .int 0]), zi G 0 6, zi G 0 6, zi G 0 6, zi G 0 9, zi G 0 6, zi G 0 9, zr G 3 8 (fun _ => none), .inr (7, [.int 0, .int 0, .ref (b + 10), .int 0, .int 0, .int 0, .int 0, .int 0, .ref (b + 11), .int 0]), zi G 1 160, zi G 0 160, zr G 4 6 (va_up (fun _ => none) 0 (some (b + 41))), .inr (3, [.int 0, .int 0, .int 0, .int 0, .ref (b + 14), .ref (b + 15), .ref (b + 16), .ref (b + 17), .ref (b + 18), .ref (b + 19), .int 0, .int 0]), zi G 0 6, zi G 0 6, zi G 0 36, zi G 0 5, zi G 0 6, zi G 0 5, .inr (5, [.int 0, .int 0, .int 0, .ref (b + 21), .ref (b + 28), .ref (b + 29)]), .inr (3, [.int 0, .int 0, .int 0, .int 0, .ref (b + 22), .ref (b + 23), .ref (b + 24), .ref (b + 25), .ref (b + 26), .ref (b + 27), .int 0, .int 0]), zi G 0 6, zi G 0 6, zi G 0 36, zi G 0 5, zi G 0 6, zi G 0 5, zr G 3 3 (fun _ => none), zr G 5 4 (fun j => some (b + 29 + 1 + j)), zi G 0 6, zi G 0 6, zi G 0 6, zi G 0 6, zr G 5 4 (fun j => some (b + 34 + 1 + j)), zi G 0 40, zi G 0 40, zi G 0 40, zi G 0 40, zf G 0 4 (upd (upd (upd (upd (fun _ => 0) 0 (-1)) 1 (-1)) 2 (-1)) 3 (-1)), zi G 0 4, .inr (9, [.ref (b + 42), .ref (b + 43), .ref (b + 45), .ref (b + 44)]), zf G 0 3 (upd (upd (upd (fun _ => 0) 0 0) 1 (-2)) 2 (-3)), zf G 0 3 (upd (upd (upd (fun _ => 0) 0 1) 1 2) 2 3), zi G 0 6, zi G 0 3]
def LM0 (G : Gt) (b : Nat) : List va_E := [.inr (12, [.int 0, .int 0, .ref (b + 1), .ref (b + 2), .ref (b + 3), .ref (b + 4), .int 0, .ref (b + 5), .ref (b + 6), .ref (b + 7), .ref (b + 8), .ref (b + 9), .ref (b + 10), .ref (b + 11), .ref (b + 12), .int 0, .int 1, .int 0, .ref (b + 13), .ref (b + 14), .ref (b + 15), .int 0, .int 0, .int 0, .int 0, .int 0, .int 0, .int 0, .ref (b + 16), .ref (b + 17), .ref (b + 18), .ref (b + 19), .int 0, .int 0, .int 0, .ref (b + 20), .int 0, .int 0, .int 0, .int 0, .int 0, .int 0, .int 0, .ref (b + 21), .ref (b + 22), .ref (b + 23), .ref (b + 24), .ref (b + 25), .ref (b + 26), .ref (b + 27), .ref (b + 28), .ref (b + 29)]), zi G 0 6, zi G 0 6, zi G 0 6, zi G 0 9, zi G 0 8, zi G 0 8, zi G 0 8, zi G 0 8, zi G 2 8, zi G 0 8, zi G 0 8, zi G 1 160, zi G 0 1190, zi G 0 1190, zi G 0 21, zi G 0 170, zi G 0 6, zi G 0 5, zi G 0 6, zi G 2 216, zi G 0 6, zi G 0 9, zi G 2 8, zi G 0 8, zi G 0 8, zf G 0 4 (upd (upd (upd (upd (fun _ => 0) 0 (-1)) 1 (-1)) 2 (-1)) 3 (-1)), zi G 0 4, zi G 0 160, zi G 0 40]
theorem lim_00 {b k : Nat} : lim (Q00 b) k = lim Qz0 k := by unfold lim; rfl
theorem lim_z4 : ∀ k, k < 34 → lim Qz0 k ≤ 4 := by decide +kernel
theorem off_lt : ∀ k, k < 34 → ∀ i, i < 4 → i < lim Qz0 k → offs k i < 46 := by decide +kernel
def invT : List (Nat × Nat) := [(0, 0), (1, 0), (2, 0), (3, 0), (4, 0), (5, 0), (6, 0), (7, 0), (8, 0), (9, 0), (10, 0), (11, 0), (12, 0), (13, 0), (14, 0), (15, 0), (16, 0), (17, 0), (18, 0), (19, 0), (20, 0), (13, 1), (14, 1), (15, 1), (16, 1), (17, 1), (18, 1), (19, 1), (21, 0), (22, 0), (23, 0), (23, 1), (23, 2), (23, 3), (24, 0), (25, 0), (25, 1), (25, 2), (25, 3), (26, 0), (27, 0), (28, 0), (29, 0), (30, 0), (31, 0), (32, 0)]
theorem off_inv : ∀ k, k < 34 → ∀ i, i < 4 → i < lim Qz0 k → invT.getD (offs k i) (99, 99) = (k, i) := by decide +kernel
theorem LC0_len {G : Gt} {b : Nat} : (LC0 G b).length = 46 := rfl
theorem LM0_len {G : Gt} {b : Nat} : (LM0 G b).length = 30 := rfl
section NW0
variable {G : Gt} {b : Nat}
theorem lc_0_0 : (LC0 G b)[offs 0 0]? = some (cE G (Q00 b) S00 0 0) := by simp only [cE]; rfl
theorem lc_1_0 : (LC0 G b)[offs 1 0]? = some (cE G (Q00 b) S00 1 0) := by simp only [cE]; rfl
theorem lc_2_0 : (LC0 G b)[offs 2 0]? = some (cE G (Q00 b) S00 2 0) := by simp only [cE]; rfl
theorem lc_3_0 : (LC0 G b)[offs 3 0]? = some (cE G (Q00 b) S00 3 0) := by simp only [cE]; rfl
theorem lc_4_0 : (LC0 G b)[offs 4 0]? = some (cE G (Q00 b) S00 4 0) := by simp only [cE]; rfl
theorem lc_5_0 : (LC0 G b)[offs 5 0]? = some (cE G (Q00 b) S00 5 0) := by simp only [cE]; rfl
theorem lc_6_0 : (LC0 G b)[offs 6 0]? = some (cE G (Q00 b) S00 6 0) := by simp only [cE]; rfl
theorem lc_7_0 : (LC0 G b)[offs 7 0]? = some (cE G (Q00 b) S00 7 0) := by simp only [cE]; rfl
theorem lc_8_0 : (LC0 G b)[offs 8 0]? = some (cE G (Q00 b) S00 8 0) := by
  have e : (fun _ => none : Nat → Option Nat) = (fun q => if q < (Q00 b).2.1 then some ((Q00 b).1 33 q) else none) := by
    funext q
    rw [if_neg (show ¬ q < (Q00 b).2.1 from Nat.not_lt_zero q)]
  show some (zr G 3 8 (fun _ => none)) = some (.inl (gC G 3, 8, .inr (.inr (.inr (.inr (fun q => if q < (Q00 b).2.1 then some ((Q00 b).1 33 q) else none))))))
  rw [← e]
theorem lc_9_0 : (LC0 G b)[offs 9 0]? = some (cE G (Q00 b) S00 9 0) := by simp only [cE]; rfl
theorem lc_10_0 : (LC0 G b)[offs 10 0]? = some (cE G (Q00 b) S00 10 0) := by simp only [cE]; rfl
theorem lc_11_0 : (LC0 G b)[offs 11 0]? = some (cE G (Q00 b) S00 11 0) := by simp only [cE]; rfl
theorem lc_12_0 : (LC0 G b)[offs 12 0]? = some (cE G (Q00 b) S00 12 0) := by
  have e : (va_up (fun _ => none) 0 (some (b + 41)) : Nat → Option Nat) = (fun q => if q < (Q00 b).2.2 then some ((Q00 b).1 28 q) else none) := by
    funext q
    by_cases h : q = 0
    · subst h; rw [va_up_self, if_pos (show 0 < (Q00 b).2.2 from Nat.one_pos)]; rfl
    · rw [va_up_ne _ _ h, if_neg (show ¬ q < (Q00 b).2.2 from fun w => by have : q < 1 := w; omega)]
  show some (zr G 4 6 (va_up (fun _ => none) 0 (some (b + 41)))) = some (.inl (gC G 4, 6, .inr (.inr (.inr (.inr (fun q => if q < (Q00 b).2.2 then some ((Q00 b).1 28 q) else none))))))
  rw [← e]
theorem lc_13_0 : (LC0 G b)[offs 13 0]? = some (cE G (Q00 b) S00 13 0) := by simp only [cE]; rfl
theorem lc_13_1 : (LC0 G b)[offs 13 1]? = some (cE G (Q00 b) S00 13 1) := by simp only [cE]; rfl
theorem lc_14_0 : (LC0 G b)[offs 14 0]? = some (cE G (Q00 b) S00 14 0) := by simp only [cE]; rfl
theorem lc_14_1 : (LC0 G b)[offs 14 1]? = some (cE G (Q00 b) S00 14 1) := by simp only [cE]; rfl
theorem lc_15_0 : (LC0 G b)[offs 15 0]? = some (cE G (Q00 b) S00 15 0) := by simp only [cE]; rfl
theorem lc_15_1 : (LC0 G b)[offs 15 1]? = some (cE G (Q00 b) S00 15 1) := by simp only [cE]; rfl
theorem lc_16_0 : (LC0 G b)[offs 16 0]? = some (cE G (Q00 b) S00 16 0) := by simp only [cE]; rfl
theorem lc_16_1 : (LC0 G b)[offs 16 1]? = some (cE G (Q00 b) S00 16 1) := by simp only [cE]; rfl
theorem lc_17_0 : (LC0 G b)[offs 17 0]? = some (cE G (Q00 b) S00 17 0) := by simp only [cE]; rfl
theorem lc_17_1 : (LC0 G b)[offs 17 1]? = some (cE G (Q00 b) S00 17 1) := by simp only [cE]; rfl
theorem lc_18_0 : (LC0 G b)[offs 18 0]? = some (cE G (Q00 b) S00 18 0) := by simp only [cE]; rfl
theorem lc_18_1 : (LC0 G b)[offs 18 1]? = some (cE G (Q00 b) S00 18 1) := by simp only [cE]; rfl
theorem lc_19_0 : (LC0 G b)[offs 19 0]? = some (cE G (Q00 b) S00 19 0) := by simp only [cE]; rfl
theorem lc_19_1 : (LC0 G b)[offs 19 1]? = some (cE G (Q00 b) S00 19 1) := by simp only [cE]; rfl
theorem lc_20_0 : (LC0 G b)[offs 20 0]? = some (cE G (Q00 b) S00 20 0) := by simp only [cE]; rfl
theorem lc_21_0 : (LC0 G b)[offs 21 0]? = some (cE G (Q00 b) S00 21 0) := by
  have e : (fun _ => none : Nat → Option Nat) = (fun q => if q < (Q00 b).2.1 ∧ S00 67 q = 1 then some ((Q00 b).1 33 q) else none) := by
    funext q
    rw [if_neg (fun z => Nat.not_lt_zero q z.1)]
  show some (zr G 3 3 (fun _ => none)) = some (.inl (gC G 3, 3, .inr (.inr (.inr (.inr (fun q => if q < (Q00 b).2.1 ∧ S00 67 q = 1 then some ((Q00 b).1 33 q) else none))))))
  rw [← e]
theorem lc_22_0 : (LC0 G b)[offs 22 0]? = some (cE G (Q00 b) S00 22 0) := by
  have e : (fun j => some (b + 29 + 1 + j) : Nat → Option Nat) = (fun q => some ((Q00 b).1 23 q)) := by
    funext q
    show some (b + 29 + 1 + q) = some (b + (30 + q))
    rw [show b + 29 + 1 + q = b + (30 + q) by omega]
  show some (zr G 5 4 (fun j => some (b + 29 + 1 + j))) = some (.inl (gC G 5, 4, .inr (.inr (.inr (.inr (fun q => some ((Q00 b).1 23 q)))))))
  rw [← e]
theorem lc_23_0 : (LC0 G b)[offs 23 0]? = some (cE G (Q00 b) S00 23 0) := by simp only [cE]; rfl
theorem lc_23_1 : (LC0 G b)[offs 23 1]? = some (cE G (Q00 b) S00 23 1) := by simp only [cE]; rfl
theorem lc_23_2 : (LC0 G b)[offs 23 2]? = some (cE G (Q00 b) S00 23 2) := by simp only [cE]; rfl
theorem lc_23_3 : (LC0 G b)[offs 23 3]? = some (cE G (Q00 b) S00 23 3) := by simp only [cE]; rfl
theorem lc_24_0 : (LC0 G b)[offs 24 0]? = some (cE G (Q00 b) S00 24 0) := by
  have e : (fun j => some (b + 34 + 1 + j) : Nat → Option Nat) = (fun q => some ((Q00 b).1 25 q)) := by
    funext q
    show some (b + 34 + 1 + q) = some (b + (35 + q))
    rw [show b + 34 + 1 + q = b + (35 + q) by omega]
  show some (zr G 5 4 (fun j => some (b + 34 + 1 + j))) = some (.inl (gC G 5, 4, .inr (.inr (.inr (.inr (fun q => some ((Q00 b).1 25 q)))))))
  rw [← e]
theorem lc_25_0 : (LC0 G b)[offs 25 0]? = some (cE G (Q00 b) S00 25 0) := by simp only [cE]; rfl
theorem lc_25_1 : (LC0 G b)[offs 25 1]? = some (cE G (Q00 b) S00 25 1) := by simp only [cE]; rfl
theorem lc_25_2 : (LC0 G b)[offs 25 2]? = some (cE G (Q00 b) S00 25 2) := by simp only [cE]; rfl
theorem lc_25_3 : (LC0 G b)[offs 25 3]? = some (cE G (Q00 b) S00 25 3) := by simp only [cE]; rfl
theorem lc_26_0 : (LC0 G b)[offs 26 0]? = some (cE G (Q00 b) S00 26 0) := by simp only [cE]; rfl
theorem lc_27_0 : (LC0 G b)[offs 27 0]? = some (cE G (Q00 b) S00 27 0) := by simp only [cE]; rfl
theorem lc_28_0 : (LC0 G b)[offs 28 0]? = some (cE G (Q00 b) S00 28 0) := by simp only [cE]; rfl
theorem lc_29_0 : (LC0 G b)[offs 29 0]? = some (cE G (Q00 b) S00 29 0) := by simp only [cE]; rfl
theorem lc_30_0 : (LC0 G b)[offs 30 0]? = some (cE G (Q00 b) S00 30 0) := by simp only [cE]; rfl
theorem lc_31_0 : (LC0 G b)[offs 31 0]? = some (cE G (Q00 b) S00 31 0) := by simp only [cE]; rfl
theorem lc_32_0 : (LC0 G b)[offs 32 0]? = some (cE G (Q00 b) S00 32 0) := by simp only [cE]; rfl
end NW0
theorem lc_at {G : Gt} {b k i : Nat} (hi : i < lim (Q00 b) k) : (LC0 G b)[offs k i]? = some (cE G (Q00 b) S00 k i) := by
  have hk := lim_k hi
  rcases (by omega : k = 0 ∨ k = 1 ∨ k = 2 ∨ k = 3 ∨ k = 4 ∨ k = 5 ∨ k = 6 ∨ k = 7 ∨ k = 8 ∨ k = 9 ∨ k = 10 ∨ k = 11 ∨ k = 12 ∨ k = 13 ∨ k = 14 ∨ k = 15 ∨ k = 16 ∨ k = 17 ∨ k = 18 ∨ k = 19 ∨ k = 20 ∨ k = 21 ∨ k = 22 ∨ k = 23 ∨ k = 24 ∨ k = 25 ∨ k = 26 ∨ k = 27 ∨ k = 28 ∨ k = 29 ∨ k = 30 ∨ k = 31 ∨ k = 32 ∨ k = 33) with rfl | rfl | rfl | rfl | rfl | rfl | rfl | rfl | rfl | rfl | rfl | rfl | rfl | rfl | rfl | rfl | rfl | rfl | rfl | rfl | rfl | rfl | rfl | rfl | rfl | rfl | rfl | rfl | rfl | rfl | rfl | rfl | rfl | rfl
  · obtain rfl : i = 0 := by have : i < 1 := hi; omega
    exact lc_0_0
  · obtain rfl : i = 0 := by have : i < 1 := hi; omega
    exact lc_1_0
  · obtain rfl : i = 0 := by have : i < 1 := hi; omega
    exact lc_2_0
  · obtain rfl : i = 0 := by have : i < 1 := hi; omega
    exact lc_3_0
  · obtain rfl : i = 0 := by have : i < 1 := hi; omega
    exact lc_4_0
  · obtain rfl : i = 0 := by have : i < 1 := hi; omega
    exact lc_5_0
  · obtain rfl : i = 0 := by have : i < 1 := hi; omega
    exact lc_6_0
  · obtain rfl : i = 0 := by have : i < 1 := hi; omega
    exact lc_7_0
  · obtain rfl : i = 0 := by have : i < 1 := hi; omega
    exact lc_8_0
  · obtain rfl : i = 0 := by have : i < 1 := hi; omega
    exact lc_9_0
  · obtain rfl : i = 0 := by have : i < 1 := hi; omega
    exact lc_10_0
  · obtain rfl : i = 0 := by have : i < 1 := hi; omega
    exact lc_11_0
  · obtain rfl : i = 0 := by have : i < 1 := hi; omega
    exact lc_12_0
  · rcases (by have : i < 2 := hi; omega : i = 0 ∨ i = 1) with rfl | rfl
    · exact lc_13_0
    · exact lc_13_1
  · rcases (by have : i < 2 := hi; omega : i = 0 ∨ i = 1) with rfl | rfl
    · exact lc_14_0
    · exact lc_14_1
  · rcases (by have : i < 2 := hi; omega : i = 0 ∨ i = 1) with rfl | rfl
    · exact lc_15_0
    · exact lc_15_1
  · rcases (by have : i < 2 := hi; omega : i = 0 ∨ i = 1) with rfl | rfl
    · exact lc_16_0
    · exact lc_16_1
  · rcases (by have : i < 2 := hi; omega : i = 0 ∨ i = 1) with rfl | rfl
    · exact lc_17_0
    · exact lc_17_1
  · rcases (by have : i < 2 := hi; omega : i = 0 ∨ i = 1) with rfl | rfl
    · exact lc_18_0
    · exact lc_18_1
  · rcases (by have : i < 2 := hi; omega : i = 0 ∨ i = 1) with rfl | rfl
    · exact lc_19_0
    · exact lc_19_1
  · obtain rfl : i = 0 := by have : i < 1 := hi; omega
    exact lc_20_0
  · obtain rfl : i = 0 := by have : i < 1 := hi; omega
    exact lc_21_0
  · obtain rfl : i = 0 := by have : i < 1 := hi; omega
    exact lc_22_0
  · rcases (by have : i < 4 := hi; omega : i = 0 ∨ i = 1 ∨ i = 2 ∨ i = 3) with rfl | rfl | rfl | rfl
    · exact lc_23_0
    · exact lc_23_1
    · exact lc_23_2
    · exact lc_23_3
  · obtain rfl : i = 0 := by have : i < 1 := hi; omega
    exact lc_24_0
  · rcases (by have : i < 4 := hi; omega : i = 0 ∨ i = 1 ∨ i = 2 ∨ i = 3) with rfl | rfl | rfl | rfl
    · exact lc_25_0
    · exact lc_25_1
    · exact lc_25_2
    · exact lc_25_3
  · obtain rfl : i = 0 := by have : i < 1 := hi; omega
    exact lc_26_0
  · obtain rfl : i = 0 := by have : i < 1 := hi; omega
    exact lc_27_0
  · obtain rfl : i = 0 := by have : i < 1 := hi; omega
    exact lc_28_0
  · obtain rfl : i = 0 := by have : i < 1 := hi; omega
    exact lc_29_0
  · obtain rfl : i = 0 := by have : i < 1 := hi; omega
    exact lc_30_0
  · obtain rfl : i = 0 := by have : i < 1 := hi; omega
    exact lc_31_0
  · obtain rfl : i = 0 := by have : i < 1 := hi; omega
    exact lc_32_0
  · exact absurd hi (Nat.not_lt_zero i)
/-- the class's new one -/
theorem new_C {G : Gt} {b : Nat} {M M0 : Nat → va_E} {h : Ht} (hp : LPC G b M (LC0 G b) h) : CPic G (fun _ => False) M0 (Q00 b) S00 h := by
  have lt : ∀ k i, i < lim (Q00 b) k → k < 34 ∧ i < 4 ∧ i < lim Qz0 k := fun k i hi => by
    have h1 := lim_k hi
    rw [lim_00] at hi
    exact ⟨h1, Nat.lt_of_lt_of_le hi (lim_z4 k h1), hi⟩
  refine ⟨fun k i hi => ?_, fun k i k' i' hi hi' he => ?_, fun k i hi => ?_, ⟨fun _ h => h.elim, Nat.le_of_ble_eq_true rfl, Nat.le_of_ble_eq_true rfl⟩, fun _ h => h.elim⟩
  · obtain ⟨h1, h2, h3⟩ := lt k i hi
    have h4 := off_lt k h1 i h2 h3
    have h5 := hp.2.1
    rw [LC0_len] at h5
    exact ⟨Nat.le_trans hp.1 (Nat.le_add_right _ _), by show b + offs k i < h.1; omega, fun q => q⟩
  · obtain ⟨h1, h2, h3⟩ := lt k i hi
    obtain ⟨g1, g2, g3⟩ := lt k' i' hi'
    have e1 := off_inv k h1 i h2 h3
    rw [show offs k i = offs k' i' from Nat.add_left_cancel he, off_inv k' g1 i' g2 g3] at e1
    exact ⟨(congrArg Prod.fst e1).symm, (congrArg Prod.snd e1).symm⟩
  · exact hp.2.2.2 _ _ (lc_at hi)
theorem lm_at {G : Gt} {b : Nat} : ∀ (j k t n : Nat), mA[j]? = some (k, t, n) → (LM0 G b)[1 + j]? = some (.inl (gC G t, n, .inl (S00 k))) := by
  intro j k t n hj
  have hl : j < 29 := (List.getElem?_eq_some_iff.mp hj).1
  rcases (by omega : j = 0 ∨ j = 1 ∨ j = 2 ∨ j = 3 ∨ j = 4 ∨ j = 5 ∨ j = 6 ∨ j = 7 ∨ j = 8 ∨ j = 9 ∨ j = 10 ∨ j = 11 ∨ j = 12 ∨ j = 13 ∨ j = 14 ∨ j = 15 ∨ j = 16 ∨ j = 17 ∨ j = 18 ∨ j = 19 ∨ j = 20 ∨ j = 21 ∨ j = 22 ∨ j = 23 ∨ j = 24 ∨ j = 25 ∨ j = 26 ∨ j = 27 ∨ j = 28) with rfl | rfl | rfl | rfl | rfl | rfl | rfl | rfl | rfl | rfl | rfl | rfl | rfl | rfl | rfl | rfl | rfl | rfl | rfl | rfl | rfl | rfl | rfl | rfl | rfl | rfl | rfl | rfl | rfl <;> cases hj <;> rfl
/-- the reference's new one -/
theorem new_M {G : Gt} {b : Nat} {M : Nat → va_E} {h : Ht} (hp : LPC G b M (LM0 G b) h) : MPic G b h S00 h := by
  refine ⟨hp.1, by have := hp.2.1; rw [LM0_len] at this; omega, rfl, ?_, fun j k t n hj => ?_, fun _ _ => rfl⟩
  · exact hp.2.2.2 0 _ rfl
  · have := hp.2.2.2 (1 + j) _ (lm_at j k t n hj)
    rw [← Nat.add_assoc] at this
    exact this
