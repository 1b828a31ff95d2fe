/-! THE CLASS: its cells by slots (kind k, number i) at the addresses Q.1 k i; Q.2: how many coats, texts there are -/
abbrev Qt : Type := (Nat → Nat → Nat) × Nat × Nat
def kci (v : Int32) : Nat := if v = 0 then 2 else if v = 1 then 8 else if v = 2 then 1 else if v = 3 then 0 else if v = 4 then 6 else 4
def lim (Q : Qt) : Nat → Nat
  | 0 => 1
  | 1 => 1
  | 2 => 1
  | 3 => 1
  | 4 => 1
  | 5 => 1
  | 6 => 1
  | 7 => 1
  | 8 => 1
  | 9 => 1
  | 10 => 1
  | 11 => 1
  | 12 => 1
  | 13 => 2
  | 14 => 2
  | 15 => 2
  | 16 => 2
  | 17 => 2
  | 18 => 2
  | 19 => 2
  | 20 => 1
  | 21 => 1
  | 22 => 1
  | 23 => 4
  | 24 => 1
  | 25 => 4
  | 26 => 1
  | 27 => 1
  | 28 => Q.2.2
  | 29 => Q.2.2
  | 30 => Q.2.2
  | 31 => Q.2.2
  | 32 => Q.2.2
  | 33 => Q.2.1
  | _ => 0
def cE (G : Gt) (Q : Qt) (S : MS) : Nat → Nat → va_E
  | 0, _ => .inr (11, [.ref (Q.1 1 0), .ref (Q.1 8 0), .int (S 6 0), .ref (Q.1 9 0), .ref (Q.1 12 0), .int (S 16 0), .ref (Q.1 28 (S 60 0).toNatClampNeg), .int (S 17 0), .ref (Q.1 13 0), .ref (Q.1 20 0), .int (S 39 0), .int (S 41 0), .int (S 42 0), .ref (Q.1 24 0), .ref (Q.1 26 0), .ref (Q.1 27 0)])
  | 1, _ => .inr (10, [.ref (Q.1 2 0), .ref (Q.1 3 0), .ref (Q.1 4 0), .ref (Q.1 5 0), .int (S 1 0), .ref (Q.1 6 0), .ref (Q.1 7 0), .int (S 40 0)])
  | 2, _ => .inl (gC G 0, 6, .inl (S 2))
  | 3, _ => .inl (gC G 0, 6, .inl (S 3))
  | 4, _ => .inl (gC G 0, 6, .inl (S 4))
  | 5, _ => .inl (gC G 0, 9, .inl (S 5))
  | 6, _ => .inl (gC G 0, 6, .inl (S 43))
  | 7, _ => .inl (gC G 0, 9, .inl (S 44))
  | 8, _ => .inl (gC G 3, 8, .inr (.inr (.inr (.inr (fun q => if q < Q.2.1 then some (Q.1 33 q) else none)))))
  | 9, _ => .inr (7, [.int (S 62 0), .int (S 15 0), .ref (Q.1 10 0), .int (S 62 1), .int (S 62 2), .int (S 62 3), .int (S 62 4), .int (S 62 5), .ref (Q.1 11 0), .int (S 62 6)])
  | 10, _ => .inl (gC G 1, 160, .inl (S 14))
  | 11, _ => .inl (gC G 0, 160, .inl (S 63))
  | 12, _ => .inl (gC G 4, 6, .inr (.inr (.inr (.inr (fun q => if q < Q.2.2 then some (Q.1 28 q) else none)))))
  | 13, i => .inr (3, [.int (S (120 + 10 * i) 0), .int (S (120 + 10 * i) 1), .int (S (120 + 10 * i) 2), .int (S (120 + 10 * i) 3), .ref (Q.1 14 i), .ref (Q.1 15 i), .ref (Q.1 16 i), .ref (Q.1 17 i), .ref (Q.1 18 i), .ref (Q.1 19 i), .int (S (120 + 10 * i) 4), .int (S (120 + 10 * i) 5)])
  | 14, i => .inl (gC G 0, 6, .inl (S (121 + 10 * i)))
  | 15, i => .inl (gC G 0, 6, .inl (S (122 + 10 * i)))
  | 16, i => .inl (gC G 0, 36, .inl (S (123 + 10 * i)))
  | 17, i => .inl (gC G 0, 5, .inl (S (124 + 10 * i)))
  | 18, i => .inl (gC G 0, 6, .inl (S (125 + 10 * i)))
  | 19, i => .inl (gC G 0, 5, .inl (S (126 + 10 * i)))
  | 20, _ => .inr (5, [.int (S 66 0), .int (S 66 1), .int (S 66 2), .ref (Q.1 13 1), .ref (Q.1 21 0), .ref (Q.1 22 0)])
  | 21, _ => .inl (gC G 3, 3, .inr (.inr (.inr (.inr (fun q => if q < Q.2.1 ∧ S 67 q = 1 then some (Q.1 33 q) else none)))))
  | 22, _ => .inl (gC G 5, 4, .inr (.inr (.inr (.inr (fun q => some (Q.1 23 q))))))
  | 23, i => .inl (gC G 0, 6, .inl (S (100 + i)))
  | 24, _ => .inl (gC G 5, 4, .inr (.inr (.inr (.inr (fun q => some (Q.1 25 q))))))
  | 25, i => .inl (gC G 0, 40, .inl (S (110 + i)))
  | 26, _ => .inl (gC G 0, 4, .inl (S 48))
  | 27, _ => .inl (gC G 0, 4, .inl (S 49))
  | 28, i => .inr (9, [.ref (Q.1 29 i), .ref (Q.1 30 i), .ref (Q.1 32 i), .ref (Q.1 31 i)])
  | 29, i => .inl (gC G 0, (S 160 i).toNatClampNeg, .inl (S (70 + i)))
  | 30, i => .inl (gC G 0, 3, .inl (S (150 + i)))
  | 31, i => .inl (gC G 0, 6, .inl (S (80 + i)))
  | 32, i => .inl (gC G 0, (S 160 i).toNatClampNeg, .inl (S (90 + i)))
  | 33, i => .inr ((kci (S 7 i)), [.int (S 7 i), .int (S 8 i), .int (S 9 i), .int (S 10 i), .int (S 11 i), .int (S 12 i), .int (S 13 i), .int (S 45 i), .int (S 46 i), .int (S 47 i)])
  | _, _ => .inr (0, [])
/-- which slot row r, place j belongs to -/
def ow (r j : Nat) : Nat × Nat :=
  match r with
  | 1 => (1, 0)
  | 2 => (2, 0)
  | 3 => (3, 0)
  | 4 => (4, 0)
  | 5 => (5, 0)
  | 6 => (0, 0)
  | 7 => (99, 0)
  | 8 => (33, j)
  | 9 => (33, j)
  | 10 => (33, j)
  | 11 => (33, j)
  | 12 => (33, j)
  | 13 => (33, j)
  | 14 => (10, 0)
  | 15 => (9, 0)
  | 16 => (0, 0)
  | 17 => (0, 0)
  | 39 => (0, 0)
  | 40 => (1, 0)
  | 41 => (0, 0)
  | 42 => (0, 0)
  | 43 => (6, 0)
  | 44 => (7, 0)
  | 45 => (33, j)
  | 46 => (33, j)
  | 47 => (33, j)
  | 48 => (26, 0)
  | 49 => (27, 0)
  | 60 => (0, 0)
  | 62 => (9, 0)
  | 63 => (11, 0)
  | 66 => (20, 0)
  | 67 => (21, 0)
  | 70 => (29, 0)
  | 71 => (29, 1)
  | 72 => (29, 2)
  | 73 => (29, 3)
  | 74 => (29, 4)
  | 75 => (29, 5)
  | 80 => (31, 0)
  | 81 => (31, 1)
  | 82 => (31, 2)
  | 83 => (31, 3)
  | 84 => (31, 4)
  | 85 => (31, 5)
  | 90 => (32, 0)
  | 91 => (32, 1)
  | 92 => (32, 2)
  | 93 => (32, 3)
  | 94 => (32, 4)
  | 95 => (32, 5)
  | 100 => (23, 0)
  | 101 => (23, 1)
  | 102 => (23, 2)
  | 103 => (23, 3)
  | 110 => (25, 0)
  | 111 => (25, 1)
  | 112 => (25, 2)
  | 113 => (25, 3)
  | 120 => (13, 0)
  | 121 => (14, 0)
  | 122 => (15, 0)
  | 123 => (16, 0)
  | 124 => (17, 0)
  | 125 => (18, 0)
  | 126 => (19, 0)
  | 130 => (13, 1)
  | 131 => (14, 1)
  | 132 => (15, 1)
  | 133 => (16, 1)
  | 134 => (17, 1)
  | 135 => (18, 1)
  | 136 => (19, 1)
  | 150 => (30, 0)
  | 151 => (30, 1)
  | 152 => (30, 2)
  | 153 => (30, 3)
  | 154 => (30, 4)
  | 155 => (30, 5)
  | _ => (99, 0)
theorem ow_70 {t : Nat} (h : t < 6) (j : Nat) : ow (70 + t) j = (29, t) ∧ ow (80 + t) j = (31, t) ∧ ow (90 + t) j = (32, t) ∧ ow (150 + t) j = (30, t) := by
  rcases (by omega : t = 0 ∨ t = 1 ∨ t = 2 ∨ t = 3 ∨ t = 4 ∨ t = 5) with rfl | rfl | rfl | rfl | rfl | rfl <;> exact ⟨rfl, rfl, rfl, rfl⟩
theorem ow_100 {t : Nat} (h : t < 4) (j : Nat) : ow (100 + t) j = (23, t) ∧ ow (110 + t) j = (25, t) := by
  rcases (by omega : t = 0 ∨ t = 1 ∨ t = 2 ∨ t = 3) with rfl | rfl | rfl | rfl <;> exact ⟨rfl, rfl⟩
theorem ow_120 {t : Nat} (h : t < 2) (j : Nat) : ow (120 + 10 * t) j = (13, t) ∧ ow (121 + 10 * t) j = (14, t) ∧ ow (122 + 10 * t) j = (15, t) ∧ ow (123 + 10 * t) j = (16, t) ∧ ow (124 + 10 * t) j = (17, t) ∧ ow (125 + 10 * t) j = (18, t) ∧ ow (126 + 10 * t) j = (19, t) := by
  rcases (by omega : t = 0 ∨ t = 1) with rfl | rfl <;> exact ⟨rfl, rfl, rfl, rfl, rfl, rfl, rfl⟩
theorem lim_k {Q : Qt} {k i : Nat} (h : i < lim Q k) : k < 34 := by
  refine Nat.not_le.mp fun hk => ?_
  obtain ⟨q, rfl⟩ := Nat.exists_eq_add_of_le hk
  have e : lim Q (34 + q) = 0 := by
    unfold lim
    split <;> first | omega | rfl
  omega
section CEr
variable {G : Gt} {Q : Qt} {S T : MS}
theorem cEc_0 {i : Nat} (hi : i < 1) (h : ∀ r j : Nat, ow r j = (0, i) → S r j = T r j) (h7 : ∀ r : Nat, r = 7 ∨ r = 160 → S r = T r) : cE G Q S 0 i = cE G Q T 0 i := by
  obtain rfl : i = 0 := by omega
  have e0 : S 6 0 = T 6 0 := h _ _ rfl
  have e1 : S 16 0 = T 16 0 := h _ _ rfl
  have e2 : S 17 0 = T 17 0 := h _ _ rfl
  have e3 : S 39 0 = T 39 0 := h _ _ rfl
  have e4 : S 41 0 = T 41 0 := h _ _ rfl
  have e5 : S 42 0 = T 42 0 := h _ _ rfl
  have e6 : S 60 0 = T 60 0 := h _ _ rfl
  simp only [cE, e0, e1, e2, e3, e4, e5, e6]
theorem cEc_1 {i : Nat} (hi : i < 1) (h : ∀ r j : Nat, ow r j = (1, i) → S r j = T r j) (h7 : ∀ r : Nat, r = 7 ∨ r = 160 → S r = T r) : cE G Q S 1 i = cE G Q T 1 i := by
  obtain rfl : i = 0 := by omega
  have e0 : S 1 0 = T 1 0 := h _ _ rfl
  have e1 : S 40 0 = T 40 0 := h _ _ rfl
  simp only [cE, e0, e1]
theorem cEc_2 {i : Nat} (hi : i < 1) (h : ∀ r j : Nat, ow r j = (2, i) → S r j = T r j) (h7 : ∀ r : Nat, r = 7 ∨ r = 160 → S r = T r) : cE G Q S 2 i = cE G Q T 2 i := by
  obtain rfl : i = 0 := by omega
  have e0 : S 2 = T 2 := funext fun j => h _ _ rfl
  simp only [cE, e0]
theorem cEc_3 {i : Nat} (hi : i < 1) (h : ∀ r j : Nat, ow r j = (3, i) → S r j = T r j) (h7 : ∀ r : Nat, r = 7 ∨ r = 160 → S r = T r) : cE G Q S 3 i = cE G Q T 3 i := by
  obtain rfl : i = 0 := by omega
  have e0 : S 3 = T 3 := funext fun j => h _ _ rfl
  simp only [cE, e0]
theorem cEc_4 {i : Nat} (hi : i < 1) (h : ∀ r j : Nat, ow r j = (4, i) → S r j = T r j) (h7 : ∀ r : Nat, r = 7 ∨ r = 160 → S r = T r) : cE G Q S 4 i = cE G Q T 4 i := by
  obtain rfl : i = 0 := by omega
  have e0 : S 4 = T 4 := funext fun j => h _ _ rfl
  simp only [cE, e0]
theorem cEc_5 {i : Nat} (hi : i < 1) (h : ∀ r j : Nat, ow r j = (5, i) → S r j = T r j) (h7 : ∀ r : Nat, r = 7 ∨ r = 160 → S r = T r) : cE G Q S 5 i = cE G Q T 5 i := by
  obtain rfl : i = 0 := by omega
  have e0 : S 5 = T 5 := funext fun j => h _ _ rfl
  simp only [cE, e0]
theorem cEc_6 {i : Nat} (hi : i < 1) (h : ∀ r j : Nat, ow r j = (6, i) → S r j = T r j) (h7 : ∀ r : Nat, r = 7 ∨ r = 160 → S r = T r) : cE G Q S 6 i = cE G Q T 6 i := by
  obtain rfl : i = 0 := by omega
  have e0 : S 43 = T 43 := funext fun j => h _ _ rfl
  simp only [cE, e0]
theorem cEc_7 {i : Nat} (hi : i < 1) (h : ∀ r j : Nat, ow r j = (7, i) → S r j = T r j) (h7 : ∀ r : Nat, r = 7 ∨ r = 160 → S r = T r) : cE G Q S 7 i = cE G Q T 7 i := by
  obtain rfl : i = 0 := by omega
  have e0 : S 44 = T 44 := funext fun j => h _ _ rfl
  simp only [cE, e0]
theorem cEc_8 {i : Nat} (hi : i < 1) (h : ∀ r j : Nat, ow r j = (8, i) → S r j = T r j) (h7 : ∀ r : Nat, r = 7 ∨ r = 160 → S r = T r) : cE G Q S 8 i = cE G Q T 8 i := by
  obtain rfl : i = 0 := by omega
  simp only [cE]
theorem cEc_9 {i : Nat} (hi : i < 1) (h : ∀ r j : Nat, ow r j = (9, i) → S r j = T r j) (h7 : ∀ r : Nat, r = 7 ∨ r = 160 → S r = T r) : cE G Q S 9 i = cE G Q T 9 i := by
  obtain rfl : i = 0 := by omega
  have e0 : S 62 0 = T 62 0 := h _ _ rfl
  have e1 : S 15 0 = T 15 0 := h _ _ rfl
  have e2 : S 62 1 = T 62 1 := h _ _ rfl
  have e3 : S 62 2 = T 62 2 := h _ _ rfl
  have e4 : S 62 3 = T 62 3 := h _ _ rfl
  have e5 : S 62 4 = T 62 4 := h _ _ rfl
  have e6 : S 62 5 = T 62 5 := h _ _ rfl
  have e7 : S 62 6 = T 62 6 := h _ _ rfl
  simp only [cE, e0, e1, e2, e3, e4, e5, e6, e7]
theorem cEc_10 {i : Nat} (hi : i < 1) (h : ∀ r j : Nat, ow r j = (10, i) → S r j = T r j) (h7 : ∀ r : Nat, r = 7 ∨ r = 160 → S r = T r) : cE G Q S 10 i = cE G Q T 10 i := by
  obtain rfl : i = 0 := by omega
  have e0 : S 14 = T 14 := funext fun j => h _ _ rfl
  have e1 := h7 160 (Or.inr rfl)
  simp only [cE, e0]
theorem cEc_11 {i : Nat} (hi : i < 1) (h : ∀ r j : Nat, ow r j = (11, i) → S r j = T r j) (h7 : ∀ r : Nat, r = 7 ∨ r = 160 → S r = T r) : cE G Q S 11 i = cE G Q T 11 i := by
  obtain rfl : i = 0 := by omega
  have e0 : S 63 = T 63 := funext fun j => h _ _ rfl
  have e1 := h7 160 (Or.inr rfl)
  simp only [cE, e0]
theorem cEc_12 {i : Nat} (hi : i < 1) (h : ∀ r j : Nat, ow r j = (12, i) → S r j = T r j) (h7 : ∀ r : Nat, r = 7 ∨ r = 160 → S r = T r) : cE G Q S 12 i = cE G Q T 12 i := by
  obtain rfl : i = 0 := by omega
  simp only [cE]
theorem cEc_13 {i : Nat} (hi : i < 2) (h : ∀ r j : Nat, ow r j = (13, i) → S r j = T r j) (h7 : ∀ r : Nat, r = 7 ∨ r = 160 → S r = T r) : cE G Q S 13 i = cE G Q T 13 i := by
  have e0 : S (120 + 10 * i) 0 = T (120 + 10 * i) 0 := h _ _ (ow_120 hi _).1
  have e1 : S (120 + 10 * i) 1 = T (120 + 10 * i) 1 := h _ _ (ow_120 hi _).1
  have e2 : S (120 + 10 * i) 2 = T (120 + 10 * i) 2 := h _ _ (ow_120 hi _).1
  have e3 : S (120 + 10 * i) 3 = T (120 + 10 * i) 3 := h _ _ (ow_120 hi _).1
  have e4 : S (120 + 10 * i) 4 = T (120 + 10 * i) 4 := h _ _ (ow_120 hi _).1
  have e5 : S (120 + 10 * i) 5 = T (120 + 10 * i) 5 := h _ _ (ow_120 hi _).1
  simp only [cE, e0, e1, e2, e3, e4, e5]
theorem cEc_14 {i : Nat} (hi : i < 2) (h : ∀ r j : Nat, ow r j = (14, i) → S r j = T r j) (h7 : ∀ r : Nat, r = 7 ∨ r = 160 → S r = T r) : cE G Q S 14 i = cE G Q T 14 i := by
  have e0 : S (121 + 10 * i) = T (121 + 10 * i) := funext fun j => h _ _ (ow_120 hi _).2.1
  simp only [cE, e0]
theorem cEc_15 {i : Nat} (hi : i < 2) (h : ∀ r j : Nat, ow r j = (15, i) → S r j = T r j) (h7 : ∀ r : Nat, r = 7 ∨ r = 160 → S r = T r) : cE G Q S 15 i = cE G Q T 15 i := by
  have e0 : S (122 + 10 * i) = T (122 + 10 * i) := funext fun j => h _ _ (ow_120 hi _).2.2.1
  simp only [cE, e0]
theorem cEc_16 {i : Nat} (hi : i < 2) (h : ∀ r j : Nat, ow r j = (16, i) → S r j = T r j) (h7 : ∀ r : Nat, r = 7 ∨ r = 160 → S r = T r) : cE G Q S 16 i = cE G Q T 16 i := by
  have e0 : S (123 + 10 * i) = T (123 + 10 * i) := funext fun j => h _ _ (ow_120 hi _).2.2.2.1
  simp only [cE, e0]
theorem cEc_17 {i : Nat} (hi : i < 2) (h : ∀ r j : Nat, ow r j = (17, i) → S r j = T r j) (h7 : ∀ r : Nat, r = 7 ∨ r = 160 → S r = T r) : cE G Q S 17 i = cE G Q T 17 i := by
  have e0 : S (124 + 10 * i) = T (124 + 10 * i) := funext fun j => h _ _ (ow_120 hi _).2.2.2.2.1
  simp only [cE, e0]
theorem cEc_18 {i : Nat} (hi : i < 2) (h : ∀ r j : Nat, ow r j = (18, i) → S r j = T r j) (h7 : ∀ r : Nat, r = 7 ∨ r = 160 → S r = T r) : cE G Q S 18 i = cE G Q T 18 i := by
  have e0 : S (125 + 10 * i) = T (125 + 10 * i) := funext fun j => h _ _ (ow_120 hi _).2.2.2.2.2.1
  simp only [cE, e0]
theorem cEc_19 {i : Nat} (hi : i < 2) (h : ∀ r j : Nat, ow r j = (19, i) → S r j = T r j) (h7 : ∀ r : Nat, r = 7 ∨ r = 160 → S r = T r) : cE G Q S 19 i = cE G Q T 19 i := by
  have e0 : S (126 + 10 * i) = T (126 + 10 * i) := funext fun j => h _ _ (ow_120 hi _).2.2.2.2.2.2
  simp only [cE, e0]
theorem cEc_20 {i : Nat} (hi : i < 1) (h : ∀ r j : Nat, ow r j = (20, i) → S r j = T r j) (h7 : ∀ r : Nat, r = 7 ∨ r = 160 → S r = T r) : cE G Q S 20 i = cE G Q T 20 i := by
  obtain rfl : i = 0 := by omega
  have e0 : S 66 0 = T 66 0 := h _ _ rfl
  have e1 : S 66 1 = T 66 1 := h _ _ rfl
  have e2 : S 66 2 = T 66 2 := h _ _ rfl
  simp only [cE, e0, e1, e2]
theorem cEc_21 {i : Nat} (hi : i < 1) (h : ∀ r j : Nat, ow r j = (21, i) → S r j = T r j) (h7 : ∀ r : Nat, r = 7 ∨ r = 160 → S r = T r) : cE G Q S 21 i = cE G Q T 21 i := by
  obtain rfl : i = 0 := by omega
  have e0 : S 67 = T 67 := funext fun j => h _ _ rfl
  simp only [cE, e0]
theorem cEc_22 {i : Nat} (hi : i < 1) (h : ∀ r j : Nat, ow r j = (22, i) → S r j = T r j) (h7 : ∀ r : Nat, r = 7 ∨ r = 160 → S r = T r) : cE G Q S 22 i = cE G Q T 22 i := by
  obtain rfl : i = 0 := by omega
  simp only [cE]
theorem cEc_23 {i : Nat} (hi : i < 4) (h : ∀ r j : Nat, ow r j = (23, i) → S r j = T r j) (h7 : ∀ r : Nat, r = 7 ∨ r = 160 → S r = T r) : cE G Q S 23 i = cE G Q T 23 i := by
  have e0 : S (100 + i) = T (100 + i) := funext fun j => h _ _ (ow_100 hi _).1
  simp only [cE, e0]
theorem cEc_24 {i : Nat} (hi : i < 1) (h : ∀ r j : Nat, ow r j = (24, i) → S r j = T r j) (h7 : ∀ r : Nat, r = 7 ∨ r = 160 → S r = T r) : cE G Q S 24 i = cE G Q T 24 i := by
  obtain rfl : i = 0 := by omega
  simp only [cE]
theorem cEc_25 {i : Nat} (hi : i < 4) (h : ∀ r j : Nat, ow r j = (25, i) → S r j = T r j) (h7 : ∀ r : Nat, r = 7 ∨ r = 160 → S r = T r) : cE G Q S 25 i = cE G Q T 25 i := by
  have e0 : S (110 + i) = T (110 + i) := funext fun j => h _ _ (ow_100 hi _).2
  simp only [cE, e0]
theorem cEc_26 {i : Nat} (hi : i < 1) (h : ∀ r j : Nat, ow r j = (26, i) → S r j = T r j) (h7 : ∀ r : Nat, r = 7 ∨ r = 160 → S r = T r) : cE G Q S 26 i = cE G Q T 26 i := by
  obtain rfl : i = 0 := by omega
  have e0 : S 48 = T 48 := funext fun j => h _ _ rfl
  simp only [cE, e0]
theorem cEc_27 {i : Nat} (hi : i < 1) (h : ∀ r j : Nat, ow r j = (27, i) → S r j = T r j) (h7 : ∀ r : Nat, r = 7 ∨ r = 160 → S r = T r) : cE G Q S 27 i = cE G Q T 27 i := by
  obtain rfl : i = 0 := by omega
  have e0 : S 49 = T 49 := funext fun j => h _ _ rfl
  simp only [cE, e0]
theorem cEc_28 {i : Nat} (hi : i < 6) (h : ∀ r j : Nat, ow r j = (28, i) → S r j = T r j) (h7 : ∀ r : Nat, r = 7 ∨ r = 160 → S r = T r) : cE G Q S 28 i = cE G Q T 28 i := by
  simp only [cE]
theorem cEc_29 {i : Nat} (hi : i < 6) (h : ∀ r j : Nat, ow r j = (29, i) → S r j = T r j) (h7 : ∀ r : Nat, r = 7 ∨ r = 160 → S r = T r) : cE G Q S 29 i = cE G Q T 29 i := by
  have e0 : S (70 + i) = T (70 + i) := funext fun j => h _ _ (ow_70 hi _).1
  have e1 := h7 160 (Or.inr rfl)
  simp only [cE, e0, e1]
theorem cEc_30 {i : Nat} (hi : i < 6) (h : ∀ r j : Nat, ow r j = (30, i) → S r j = T r j) (h7 : ∀ r : Nat, r = 7 ∨ r = 160 → S r = T r) : cE G Q S 30 i = cE G Q T 30 i := by
  have e0 : S (150 + i) = T (150 + i) := funext fun j => h _ _ (ow_70 hi _).2.2.2
  simp only [cE, e0]
theorem cEc_31 {i : Nat} (hi : i < 6) (h : ∀ r j : Nat, ow r j = (31, i) → S r j = T r j) (h7 : ∀ r : Nat, r = 7 ∨ r = 160 → S r = T r) : cE G Q S 31 i = cE G Q T 31 i := by
  have e0 : S (80 + i) = T (80 + i) := funext fun j => h _ _ (ow_70 hi _).2.1
  simp only [cE, e0]
theorem cEc_32 {i : Nat} (hi : i < 6) (h : ∀ r j : Nat, ow r j = (32, i) → S r j = T r j) (h7 : ∀ r : Nat, r = 7 ∨ r = 160 → S r = T r) : cE G Q S 32 i = cE G Q T 32 i := by
  have e0 : S (90 + i) = T (90 + i) := funext fun j => h _ _ (ow_70 hi _).2.2.1
  have e1 := h7 160 (Or.inr rfl)
  simp only [cE, e0, e1]
theorem cEc_33 {i : Nat} (h : ∀ r j : Nat, ow r j = (33, i) → S r j = T r j) (h7 : ∀ r : Nat, r = 7 ∨ r = 160 → S r = T r) : cE G Q S 33 i = cE G Q T 33 i := by
  have e0 : S 8 i = T 8 i := h _ _ rfl
  have e1 : S 9 i = T 9 i := h _ _ rfl
  have e2 : S 10 i = T 10 i := h _ _ rfl
  have e3 : S 11 i = T 11 i := h _ _ rfl
  have e4 : S 12 i = T 12 i := h _ _ rfl
  have e5 : S 13 i = T 13 i := h _ _ rfl
  have e6 : S 45 i = T 45 i := h _ _ rfl
  have e7 : S 46 i = T 46 i := h _ _ rfl
  have e8 : S 47 i = T 47 i := h _ _ rfl
  have e99 := h7 7 (Or.inl rfl)
  simp only [cE, e0, e1, e2, e3, e4, e5, e6, e7, e8, e99]
theorem cE_congr {k i : Nat} (hn : Q.2.2 ≤ 6) (hl : i < lim Q k) (h : ∀ r j : Nat, ow r j = (k, i) → S r j = T r j) (h7 : ∀ r : Nat, r = 7 ∨ r = 160 → S r = T r) : cE G Q S k i = cE G Q T k i := by
  have hk := lim_k hl
  rcases (by omega : k = 0 ∨ k = 1 ∨ k = 2 ∨ k = 3 ∨ k = 4 ∨ k = 5 ∨ k = 6 ∨ k = 7 ∨ k = 8 ∨ k = 9 ∨ k = 10 ∨ k = 11 ∨ k = 12 ∨ k = 13 ∨ k = 14 ∨ k = 15 ∨ k = 16 ∨ k = 17 ∨ k = 18 ∨ k = 19 ∨ k = 20 ∨ k = 21 ∨ k = 22 ∨ k = 23 ∨ k = 24 ∨ k = 25 ∨ k = 26 ∨ k = 27 ∨ k = 28 ∨ k = 29 ∨ k = 30 ∨ k = 31 ∨ k = 32 ∨ k = 33) with rfl | rfl | rfl | rfl | rfl | rfl | rfl | rfl | rfl | rfl | rfl | rfl | rfl | rfl | rfl | rfl | rfl | rfl | rfl | rfl | rfl | rfl | rfl | rfl | rfl | rfl | rfl | rfl | rfl | rfl | rfl | rfl | rfl | rfl
  · exact cEc_0 hl h h7
  · exact cEc_1 hl h h7
  · exact cEc_2 hl h h7
  · exact cEc_3 hl h h7
  · exact cEc_4 hl h h7
  · exact cEc_5 hl h h7
  · exact cEc_6 hl h h7
  · exact cEc_7 hl h h7
  · exact cEc_8 hl h h7
  · exact cEc_9 hl h h7
  · exact cEc_10 hl h h7
  · exact cEc_11 hl h h7
  · exact cEc_12 hl h h7
  · exact cEc_13 hl h h7
  · exact cEc_14 hl h h7
  · exact cEc_15 hl h h7
  · exact cEc_16 hl h h7
  · exact cEc_17 hl h h7
  · exact cEc_18 hl h h7
  · exact cEc_19 hl h h7
  · exact cEc_20 hl h h7
  · exact cEc_21 hl h h7
  · exact cEc_22 hl h h7
  · exact cEc_23 hl h h7
  · exact cEc_24 hl h h7
  · exact cEc_25 hl h h7
  · exact cEc_26 hl h h7
  · exact cEc_27 hl h h7
  · exact cEc_28 (Nat.lt_of_lt_of_le (show i < Q.2.2 from hl) hn) h h7
  · exact cEc_29 (Nat.lt_of_lt_of_le (show i < Q.2.2 from hl) hn) h h7
  · exact cEc_30 (Nat.lt_of_lt_of_le (show i < Q.2.2 from hl) hn) h h7
  · exact cEc_31 (Nat.lt_of_lt_of_le (show i < Q.2.2 from hl) hn) h h7
  · exact cEc_32 (Nat.lt_of_lt_of_le (show i < Q.2.2 from hl) hn) h h7
  · exact cEc_33 h h7
end CEr
/-- the heap holds the class: addresses, apart, cells; the reference's cells are M0 -/
def CPic (G : Gt) (m : Nat → Prop) (M0 : Nat → va_E) (Q : Qt) (S : MS) (h : Ht) : Prop :=
  (∀ k i : Nat, i < lim Q k → gB G ≤ Q.1 k i ∧ Q.1 k i < h.1 ∧ ¬ m (Q.1 k i)) ∧
  (∀ k i k' i' : Nat, i < lim Q k → i' < lim Q k' → Q.1 k i = Q.1 k' i' → k = k' ∧ i = i') ∧
  (∀ k i : Nat, i < lim Q k → h.2 (Q.1 k i) = cE G Q S k i) ∧
  ((∀ a : Nat, m a → a < h.1) ∧ Q.2.2 ≤ 6 ∧ Q.2.1 ≤ 8) ∧ ∀ a : Nat, m a → h.2 a = M0 a
theorem ow_up2 {S : MS} {r j k i : Nat} {x : Int32} (h : ow r j ≠ (k, i)) : ∀ r' j' : Nat, ow r' j' = (k, i) → up2 S r j x r' j' = S r' j' := by
  intro r' j' h'
  unfold up2
  by_cases e : r' = r
  · subst e
    rw [if_pos rfl]
    by_cases e2 : j' = j
    · subst e2
      exact absurd h' h
    · simp [upd, e2]
  · rw [if_neg e]
section CXr
variable {G : Gt} {m : Nat → Prop} {M0 : Nat → va_E} {Q : Qt} {d : Nat} {Y : Yt} {pc : Nat} {ls : List (Option Value)} {st : List Value} {S : MS} {mc ms : Nat} {Post : Option Value → MS → Prop}
theorem CPic.set {h : Ht} {T : MS} {k i : Nat} {E : va_E} (hp : CPic G m M0 Q S h) (hl : i < lim Q k) (he : cE G Q T k i = E) (hT : ∀ k' i' : Nat, i' < lim Q k' → ¬ (k' = k ∧ i' = i) → cE G Q T k' i' = cE G Q S k' i') : CPic G m M0 Q T (h.1, va_up h.2 (Q.1 k i) E) := by
  obtain ⟨p1, p2, p3, p4, p5⟩ := hp
  refine ⟨p1, p2, fun k' i' hl' => ?_, p4, fun a h1 => ?_⟩
  · show va_up h.2 _ _ (Q.1 k' i') = _
    by_cases e : k' = k ∧ i' = i
    · obtain ⟨rfl, rfl⟩ := e
      rw [va_up_self, he]
    · rw [va_up_ne _ _ (fun e2 => e (p2 k' i' k i hl' hl e2)), p3 k' i' hl', hT k' i' hl' e]
  · show va_up h.2 _ _ a = _
    have := (p1 k i hl).2.2
    rw [va_up_ne _ _ (fun e => this (by rw [← e]; exact h1))]
    exact p5 a h1
theorem CPic.up {h : Ht} {r j k i : Nat} {x : Int32} {E : va_E} (hp : CPic G m M0 Q S h) (hl : i < lim Q k) (hr : r ≠ 7 ∧ r ≠ 160) (how : ow r j = (k, i)) (he : cE G Q (up2 S r j x) k i = E) : CPic G m M0 Q (up2 S r j x) (h.1, va_up h.2 (Q.1 k i) E) := by
  refine hp.set hl he fun k' i' hl' hne => cE_congr hp.2.2.2.1.2.1 hl' (ow_up2 (fun e => hne ?_)) (fun q hq => ?_)
  · rw [how] at e
    exact ⟨(congrArg Prod.fst e).symm, (congrArg Prod.snd e).symm⟩
  · rcases hq with rfl | rfl
    · exact up2_ne (Ne.symm hr.1)
    · exact up2_ne (Ne.symm hr.2)
theorem CPic.upA {h : Ht} {r k i : Nat} {T : MS} {E : va_E} (hp : CPic G m M0 Q S h) (hl : i < lim Q k) (hr : r ≠ 7 ∧ r ≠ 160) (how : ∀ j, ow r j = (k, i)) (hT : ∀ q, q ≠ r → T q = S q) (he : cE G Q T k i = E) : CPic G m M0 Q T (h.1, va_up h.2 (Q.1 k i) E) := by
  refine hp.set hl he fun k' i' hl' hne => cE_congr hp.2.2.2.1.2.1 hl' (fun r' j' h' => ?_) (fun q hq => hT q ?_)
  · have : r' ≠ r := by
      rintro rfl
      rw [how j'] at h'
      exact hne ⟨(congrArg Prod.fst h').symm, (congrArg Prod.snd h').symm⟩
    rw [hT r' this]
  · rcases hq with rfl | rfl
    · exact Ne.symm hr.1
    · exact Ne.symm hr.2
theorem cx_get {index k i ci f : Nat} {ty : FieldType} {fin : Bool} {fs : List Value} {v : Value} (hd : decode Y.2.1 pc = .ok (.getfield index, 3)) (hg : GF Y.1.cls index ci f ty fin) (he : cE G Q S k i = .inr (ci, fs)) (hl : i < lim Q k) (hv : fs[f]? = some v) (kk : PX G (CPic G m M0 Q) d Y (pc + 3) ls (v :: st) S mc ms Post) : PX G (CPic G m M0 Q) d Y pc ls (.ref (Q.1 k i) :: st) S mc ms Post :=
  fun h hp => ax_get hd hg (hp.1 k i hl).1 (hp.1 k i hl).2.1 ((hp.2.2.1 k i hl).trans he) hv (kk h hp)
theorem cx_put {index k i ci f r j : Nat} {ty : FieldType} {fs : List Value} {x : Int32} (hd : decode Y.2.1 pc = .ok (.putfield index, 3)) (hg : GF Y.1.cls index ci f ty false) (he : cE G Q S k i = .inr (ci, fs)) (hl : i < lim Q k) (hk0 : f < fs.length) (hr : r ≠ 7 ∧ r ≠ 160) (how : ow r j = (k, i)) (he' : cE G Q (up2 S r j x) k i = .inr (ci, fs.set f (.int x))) (hnv : narrow ty (.int x) = .int x) (hfit : fits ty (.int x) = true) (kk : PX G (CPic G m M0 Q) d Y (pc + 3) ls st (up2 S r j x) mc ms Post) : PX G (CPic G m M0 Q) d Y pc ls (.int x :: .ref (Q.1 k i) :: st) S mc ms Post :=
  fun h hp => ax_put hd hg (hp.1 k i hl).1 (hp.1 k i hl).2.1 ((hp.2.2.1 k i hl).trans he) hk0 hnv hfit (kk _ (hp.up hl hr how he'))
theorem cx_alen {k i t n : Nat} {x : vp_A} {ty : FieldType} {v : Int32} (hd : decode Y.2.1 pc = .ok (.arraylength, 1)) (he : cE G Q S k i = .inl (gC G t, x)) (hl : i < lim Q k) (ht : (gT G)[t]? = some (gC G t, ty)) (hv : Int32.ofNat x.1 = v) (kk : PX G (CPic G m M0 Q) d Y (pc + 1) ls (.int v :: st) S mc ms Post) : PX G (CPic G m M0 Q) d Y pc ls (.ref (Q.1 k i) :: st) S mc ms Post :=
  fun h hp => ax_alen hd (hp.1 k i hl).1 (hp.1 k i hl).2.1 ((hp.2.2.1 k i hl).trans he) ht hv (kk h hp)
theorem cx_aald {k i t n : Nat} {ty : FieldType} {f : Nat → Option Nat} {ix : Int32} {v : Value} (n0 : Nat) (hd : decode Y.2.1 pc = .ok (.aaload, 1)) (he : cE G Q S k i = .inl (gC G t, n, .inr (.inr (.inr (.inr f))))) (hl : i < lim Q k) (ht : (gT G)[t]? = some (gC G t, ty)) (hty : ty.isReference = true) (hi : ix = nI n0) (hlt : n0 < n) (hn : n < 2 ^ 31) (hv : va_rf (f n0) = v) (kk : PX G (CPic G m M0 Q) d Y (pc + 1) ls (v :: st) S mc ms Post) : PX G (CPic G m M0 Q) d Y pc ls (.int ix :: .ref (Q.1 k i) :: st) S mc ms Post := by
  intro h hp
  subst hi
  refine ax_aald hd (hp.1 k i hl).1 (hp.1 k i hl).2.1 ((hp.2.2.1 k i hl).trans he) ht hty (vp_in_nI hlt hn) ?_
  rw [nI_clamp (by omega), hv]
  exact kk h hp
theorem cx_iald {k i r n : Nat} {ix : Int32} (n0 : Nat) (hd : decode Y.2.1 pc = .ok (.iaload, 1)) (he : cE G Q S k i = .inl (gC G 0, n, .inl (S r))) (hl : i < lim Q k) (hi : ix = nI n0) (hlt : n0 < n) (hn : n < 2 ^ 31) (kk : PX G (CPic G m M0 Q) d Y (pc + 1) ls (.int (S r n0) :: st) S mc ms Post) : PX G (CPic G m M0 Q) d Y pc ls (.int ix :: .ref (Q.1 k i) :: st) S mc ms Post := by
  intro h hp
  subst hi
  refine ax_iald hd (hp.1 k i hl).1 (hp.1 k i hl).2.1 ((hp.2.2.1 k i hl).trans he) (vp_in_nI hlt hn) ?_
  rw [nI_clamp (by omega)]
  exact kk h hp
theorem cx_iast {k i r n : Nat} {ix x : Int32} (n0 : Nat) (hd : decode Y.2.1 pc = .ok (.iastore, 1)) (he : ∀ S' : MS, S' 160 = S 160 → cE G Q S' k i = .inl (gC G 0, n, .inl (S' r))) (hl : i < lim Q k) (hr : r ≠ 7 ∧ r ≠ 160) (how : ow r n0 = (k, i)) (hi : ix = nI n0) (hlt : n0 < n) (hn : n < 2 ^ 31) (kk : PX G (CPic G m M0 Q) d Y (pc + 1) ls st (up2 S r n0 x) mc ms Post) : PX G (CPic G m M0 Q) d Y pc ls (.int x :: .int ix :: .ref (Q.1 k i) :: st) S mc ms Post := by
  intro h hp
  subst hi
  refine ax_iast hd (hp.1 k i hl).1 (hp.1 k i hl).2.1 ((hp.2.2.1 k i hl).trans (he S rfl)) (vp_in_nI hlt hn) ?_
  rw [nI_clamp (by omega)]
  exact kk _ (hp.up hl hr how (by rw [he _ (up2_ne (Ne.symm hr.2)), up2_eq]))
theorem cx_bald {k i r n : Nat} {ix : Int32} (n0 : Nat) (hd : decode Y.2.1 pc = .ok (.baload, 1)) (he : cE G Q S k i = .inl (gC G 1, n, .inl (S r))) (hl : i < lim Q k) (hi : ix = nI n0) (hlt : n0 < n) (hn : n < 2 ^ 31) (kk : PX G (CPic G m M0 Q) d Y (pc + 1) ls (.int (S r n0) :: st) S mc ms Post) : PX G (CPic G m M0 Q) d Y pc ls (.int ix :: .ref (Q.1 k i) :: st) S mc ms Post := by
  intro h hp
  subst hi
  refine ax_bald hd (hp.1 k i hl).1 (hp.1 k i hl).2.1 ((hp.2.2.1 k i hl).trans he) (vp_in_nI hlt hn) ?_
  rw [nI_clamp (by omega)]
  exact kk h hp
theorem cx_bast {k i r n : Nat} {ix x : Int32} (n0 : Nat) (hd : decode Y.2.1 pc = .ok (.bastore, 1)) (he : ∀ S' : MS, S' 160 = S 160 → cE G Q S' k i = .inl (gC G 1, n, .inl (S' r))) (hl : i < lim Q k) (hr : r ≠ 7 ∧ r ≠ 160) (how : ow r n0 = (k, i)) (hi : ix = nI n0) (hlt : n0 < n) (hn : n < 2 ^ 31) (kk : PX G (CPic G m M0 Q) d Y (pc + 1) ls st (up2 S r n0 (vp_nar .byte x)) mc ms Post) : PX G (CPic G m M0 Q) d Y pc ls (.int x :: .int ix :: .ref (Q.1 k i) :: st) S mc ms Post := by
  intro h hp
  subst hi
  refine ax_bast hd (hp.1 k i hl).1 (hp.1 k i hl).2.1 ((hp.2.2.1 k i hl).trans (he S rfl)) (vp_in_nI hlt hn) ?_
  rw [nI_clamp (by omega)]
  exact kk _ (hp.up hl hr how (by rw [he _ (up2_ne (Ne.symm hr.2)), up2_eq]))
theorem cpe_0_2 (i : Nat) (x : Int32) : cE G Q (up2 S 6 0 x) 0 0 = .inr (11, [.ref (Q.1 1 0), .ref (Q.1 8 0), .int (S 6 0), .ref (Q.1 9 0), .ref (Q.1 12 0), .int (S 16 0), .ref (Q.1 28 (S 60 0).toNatClampNeg), .int (S 17 0), .ref (Q.1 13 0), .ref (Q.1 20 0), .int (S 39 0), .int (S 41 0), .int (S 42 0), .ref (Q.1 24 0), .ref (Q.1 26 0), .ref (Q.1 27 0)].set 2 (.int x)) := by
  rfl
theorem cpe_0_5 (i : Nat) (x : Int32) : cE G Q (up2 S 16 0 x) 0 0 = .inr (11, [.ref (Q.1 1 0), .ref (Q.1 8 0), .int (S 6 0), .ref (Q.1 9 0), .ref (Q.1 12 0), .int (S 16 0), .ref (Q.1 28 (S 60 0).toNatClampNeg), .int (S 17 0), .ref (Q.1 13 0), .ref (Q.1 20 0), .int (S 39 0), .int (S 41 0), .int (S 42 0), .ref (Q.1 24 0), .ref (Q.1 26 0), .ref (Q.1 27 0)].set 5 (.int x)) := by
  rfl
theorem cpe_0_7 (i : Nat) (x : Int32) : cE G Q (up2 S 17 0 x) 0 0 = .inr (11, [.ref (Q.1 1 0), .ref (Q.1 8 0), .int (S 6 0), .ref (Q.1 9 0), .ref (Q.1 12 0), .int (S 16 0), .ref (Q.1 28 (S 60 0).toNatClampNeg), .int (S 17 0), .ref (Q.1 13 0), .ref (Q.1 20 0), .int (S 39 0), .int (S 41 0), .int (S 42 0), .ref (Q.1 24 0), .ref (Q.1 26 0), .ref (Q.1 27 0)].set 7 (.int x)) := by
  rfl
theorem cpe_0_10 (i : Nat) (x : Int32) : cE G Q (up2 S 39 0 x) 0 0 = .inr (11, [.ref (Q.1 1 0), .ref (Q.1 8 0), .int (S 6 0), .ref (Q.1 9 0), .ref (Q.1 12 0), .int (S 16 0), .ref (Q.1 28 (S 60 0).toNatClampNeg), .int (S 17 0), .ref (Q.1 13 0), .ref (Q.1 20 0), .int (S 39 0), .int (S 41 0), .int (S 42 0), .ref (Q.1 24 0), .ref (Q.1 26 0), .ref (Q.1 27 0)].set 10 (.int x)) := by
  rfl
theorem cpe_0_11 (i : Nat) (x : Int32) : cE G Q (up2 S 41 0 x) 0 0 = .inr (11, [.ref (Q.1 1 0), .ref (Q.1 8 0), .int (S 6 0), .ref (Q.1 9 0), .ref (Q.1 12 0), .int (S 16 0), .ref (Q.1 28 (S 60 0).toNatClampNeg), .int (S 17 0), .ref (Q.1 13 0), .ref (Q.1 20 0), .int (S 39 0), .int (S 41 0), .int (S 42 0), .ref (Q.1 24 0), .ref (Q.1 26 0), .ref (Q.1 27 0)].set 11 (.int x)) := by
  rfl
theorem cpe_0_12 (i : Nat) (x : Int32) : cE G Q (up2 S 42 0 x) 0 0 = .inr (11, [.ref (Q.1 1 0), .ref (Q.1 8 0), .int (S 6 0), .ref (Q.1 9 0), .ref (Q.1 12 0), .int (S 16 0), .ref (Q.1 28 (S 60 0).toNatClampNeg), .int (S 17 0), .ref (Q.1 13 0), .ref (Q.1 20 0), .int (S 39 0), .int (S 41 0), .int (S 42 0), .ref (Q.1 24 0), .ref (Q.1 26 0), .ref (Q.1 27 0)].set 12 (.int x)) := by
  rfl
theorem cpe_1_4 (i : Nat) (x : Int32) : cE G Q (up2 S 1 0 x) 1 0 = .inr (10, [.ref (Q.1 2 0), .ref (Q.1 3 0), .ref (Q.1 4 0), .ref (Q.1 5 0), .int (S 1 0), .ref (Q.1 6 0), .ref (Q.1 7 0), .int (S 40 0)].set 4 (.int x)) := by
  rfl
theorem cpe_1_7 (i : Nat) (x : Int32) : cE G Q (up2 S 40 0 x) 1 0 = .inr (10, [.ref (Q.1 2 0), .ref (Q.1 3 0), .ref (Q.1 4 0), .ref (Q.1 5 0), .int (S 1 0), .ref (Q.1 6 0), .ref (Q.1 7 0), .int (S 40 0)].set 7 (.int x)) := by
  rfl
theorem cpe_9_0 (i : Nat) (x : Int32) : cE G Q (up2 S 62 0 x) 9 0 = .inr (7, [.int (S 62 0), .int (S 15 0), .ref (Q.1 10 0), .int (S 62 1), .int (S 62 2), .int (S 62 3), .int (S 62 4), .int (S 62 5), .ref (Q.1 11 0), .int (S 62 6)].set 0 (.int x)) := by
  rfl
theorem cpe_9_1 (i : Nat) (x : Int32) : cE G Q (up2 S 15 0 x) 9 0 = .inr (7, [.int (S 62 0), .int (S 15 0), .ref (Q.1 10 0), .int (S 62 1), .int (S 62 2), .int (S 62 3), .int (S 62 4), .int (S 62 5), .ref (Q.1 11 0), .int (S 62 6)].set 1 (.int x)) := by
  rfl
theorem cpe_9_3 (i : Nat) (x : Int32) : cE G Q (up2 S 62 1 x) 9 0 = .inr (7, [.int (S 62 0), .int (S 15 0), .ref (Q.1 10 0), .int (S 62 1), .int (S 62 2), .int (S 62 3), .int (S 62 4), .int (S 62 5), .ref (Q.1 11 0), .int (S 62 6)].set 3 (.int x)) := by
  rfl
theorem cpe_9_4 (i : Nat) (x : Int32) : cE G Q (up2 S 62 2 x) 9 0 = .inr (7, [.int (S 62 0), .int (S 15 0), .ref (Q.1 10 0), .int (S 62 1), .int (S 62 2), .int (S 62 3), .int (S 62 4), .int (S 62 5), .ref (Q.1 11 0), .int (S 62 6)].set 4 (.int x)) := by
  rfl
theorem cpe_9_5 (i : Nat) (x : Int32) : cE G Q (up2 S 62 3 x) 9 0 = .inr (7, [.int (S 62 0), .int (S 15 0), .ref (Q.1 10 0), .int (S 62 1), .int (S 62 2), .int (S 62 3), .int (S 62 4), .int (S 62 5), .ref (Q.1 11 0), .int (S 62 6)].set 5 (.int x)) := by
  rfl
theorem cpe_9_6 (i : Nat) (x : Int32) : cE G Q (up2 S 62 4 x) 9 0 = .inr (7, [.int (S 62 0), .int (S 15 0), .ref (Q.1 10 0), .int (S 62 1), .int (S 62 2), .int (S 62 3), .int (S 62 4), .int (S 62 5), .ref (Q.1 11 0), .int (S 62 6)].set 6 (.int x)) := by
  rfl
theorem cpe_9_7 (i : Nat) (x : Int32) : cE G Q (up2 S 62 5 x) 9 0 = .inr (7, [.int (S 62 0), .int (S 15 0), .ref (Q.1 10 0), .int (S 62 1), .int (S 62 2), .int (S 62 3), .int (S 62 4), .int (S 62 5), .ref (Q.1 11 0), .int (S 62 6)].set 7 (.int x)) := by
  rfl
theorem cpe_9_9 (i : Nat) (x : Int32) : cE G Q (up2 S 62 6 x) 9 0 = .inr (7, [.int (S 62 0), .int (S 15 0), .ref (Q.1 10 0), .int (S 62 1), .int (S 62 2), .int (S 62 3), .int (S 62 4), .int (S 62 5), .ref (Q.1 11 0), .int (S 62 6)].set 9 (.int x)) := by
  rfl
theorem cpe_13_0 (i : Nat) (x : Int32) : cE G Q (up2 S (120 + 10 * i) 0 x) 13 i = .inr (3, [.int (S (120 + 10 * i) 0), .int (S (120 + 10 * i) 1), .int (S (120 + 10 * i) 2), .int (S (120 + 10 * i) 3), .ref (Q.1 14 i), .ref (Q.1 15 i), .ref (Q.1 16 i), .ref (Q.1 17 i), .ref (Q.1 18 i), .ref (Q.1 19 i), .int (S (120 + 10 * i) 4), .int (S (120 + 10 * i) 5)].set 0 (.int x)) := by
  simp [cE, up2, upd]
theorem cpe_13_1 (i : Nat) (x : Int32) : cE G Q (up2 S (120 + 10 * i) 1 x) 13 i = .inr (3, [.int (S (120 + 10 * i) 0), .int (S (120 + 10 * i) 1), .int (S (120 + 10 * i) 2), .int (S (120 + 10 * i) 3), .ref (Q.1 14 i), .ref (Q.1 15 i), .ref (Q.1 16 i), .ref (Q.1 17 i), .ref (Q.1 18 i), .ref (Q.1 19 i), .int (S (120 + 10 * i) 4), .int (S (120 + 10 * i) 5)].set 1 (.int x)) := by
  simp [cE, up2, upd]
theorem cpe_13_2 (i : Nat) (x : Int32) : cE G Q (up2 S (120 + 10 * i) 2 x) 13 i = .inr (3, [.int (S (120 + 10 * i) 0), .int (S (120 + 10 * i) 1), .int (S (120 + 10 * i) 2), .int (S (120 + 10 * i) 3), .ref (Q.1 14 i), .ref (Q.1 15 i), .ref (Q.1 16 i), .ref (Q.1 17 i), .ref (Q.1 18 i), .ref (Q.1 19 i), .int (S (120 + 10 * i) 4), .int (S (120 + 10 * i) 5)].set 2 (.int x)) := by
  simp [cE, up2, upd]
theorem cpe_13_3 (i : Nat) (x : Int32) : cE G Q (up2 S (120 + 10 * i) 3 x) 13 i = .inr (3, [.int (S (120 + 10 * i) 0), .int (S (120 + 10 * i) 1), .int (S (120 + 10 * i) 2), .int (S (120 + 10 * i) 3), .ref (Q.1 14 i), .ref (Q.1 15 i), .ref (Q.1 16 i), .ref (Q.1 17 i), .ref (Q.1 18 i), .ref (Q.1 19 i), .int (S (120 + 10 * i) 4), .int (S (120 + 10 * i) 5)].set 3 (.int x)) := by
  simp [cE, up2, upd]
theorem cpe_13_10 (i : Nat) (x : Int32) : cE G Q (up2 S (120 + 10 * i) 4 x) 13 i = .inr (3, [.int (S (120 + 10 * i) 0), .int (S (120 + 10 * i) 1), .int (S (120 + 10 * i) 2), .int (S (120 + 10 * i) 3), .ref (Q.1 14 i), .ref (Q.1 15 i), .ref (Q.1 16 i), .ref (Q.1 17 i), .ref (Q.1 18 i), .ref (Q.1 19 i), .int (S (120 + 10 * i) 4), .int (S (120 + 10 * i) 5)].set 10 (.int x)) := by
  simp [cE, up2, upd]
theorem cpe_13_11 (i : Nat) (x : Int32) : cE G Q (up2 S (120 + 10 * i) 5 x) 13 i = .inr (3, [.int (S (120 + 10 * i) 0), .int (S (120 + 10 * i) 1), .int (S (120 + 10 * i) 2), .int (S (120 + 10 * i) 3), .ref (Q.1 14 i), .ref (Q.1 15 i), .ref (Q.1 16 i), .ref (Q.1 17 i), .ref (Q.1 18 i), .ref (Q.1 19 i), .int (S (120 + 10 * i) 4), .int (S (120 + 10 * i) 5)].set 11 (.int x)) := by
  simp [cE, up2, upd]
theorem cpe_20_0 (i : Nat) (x : Int32) : cE G Q (up2 S 66 0 x) 20 0 = .inr (5, [.int (S 66 0), .int (S 66 1), .int (S 66 2), .ref (Q.1 13 1), .ref (Q.1 21 0), .ref (Q.1 22 0)].set 0 (.int x)) := by
  rfl
theorem cpe_20_1 (i : Nat) (x : Int32) : cE G Q (up2 S 66 1 x) 20 0 = .inr (5, [.int (S 66 0), .int (S 66 1), .int (S 66 2), .ref (Q.1 13 1), .ref (Q.1 21 0), .ref (Q.1 22 0)].set 1 (.int x)) := by
  rfl
theorem cpe_20_2 (i : Nat) (x : Int32) : cE G Q (up2 S 66 2 x) 20 0 = .inr (5, [.int (S 66 0), .int (S 66 1), .int (S 66 2), .ref (Q.1 13 1), .ref (Q.1 21 0), .ref (Q.1 22 0)].set 2 (.int x)) := by
  rfl
theorem cpe_33_4 (i : Nat) (x : Int32) : cE G Q (up2 S 11 i x) 33 i = .inr ((kci (S 7 i)), [.int (S 7 i), .int (S 8 i), .int (S 9 i), .int (S 10 i), .int (S 11 i), .int (S 12 i), .int (S 13 i), .int (S 45 i), .int (S 46 i), .int (S 47 i)].set 4 (.int x)) := by
  simp [cE, up2, upd]
theorem cpe_33_5 (i : Nat) (x : Int32) : cE G Q (up2 S 12 i x) 33 i = .inr ((kci (S 7 i)), [.int (S 7 i), .int (S 8 i), .int (S 9 i), .int (S 10 i), .int (S 11 i), .int (S 12 i), .int (S 13 i), .int (S 45 i), .int (S 46 i), .int (S 47 i)].set 5 (.int x)) := by
  simp [cE, up2, upd]
theorem cpe_33_6 (i : Nat) (x : Int32) : cE G Q (up2 S 13 i x) 33 i = .inr ((kci (S 7 i)), [.int (S 7 i), .int (S 8 i), .int (S 9 i), .int (S 10 i), .int (S 11 i), .int (S 12 i), .int (S 13 i), .int (S 45 i), .int (S 46 i), .int (S 47 i)].set 6 (.int x)) := by
  simp [cE, up2, upd]
theorem cpe_33_7 (i : Nat) (x : Int32) : cE G Q (up2 S 45 i x) 33 i = .inr ((kci (S 7 i)), [.int (S 7 i), .int (S 8 i), .int (S 9 i), .int (S 10 i), .int (S 11 i), .int (S 12 i), .int (S 13 i), .int (S 45 i), .int (S 46 i), .int (S 47 i)].set 7 (.int x)) := by
  simp [cE, up2, upd]
theorem cpe_33_8 (i : Nat) (x : Int32) : cE G Q (up2 S 46 i x) 33 i = .inr ((kci (S 7 i)), [.int (S 7 i), .int (S 8 i), .int (S 9 i), .int (S 10 i), .int (S 11 i), .int (S 12 i), .int (S 13 i), .int (S 45 i), .int (S 46 i), .int (S 47 i)].set 8 (.int x)) := by
  simp [cE, up2, upd]
theorem cpe_33_9 (i : Nat) (x : Int32) : cE G Q (up2 S 47 i x) 33 i = .inr ((kci (S 7 i)), [.int (S 7 i), .int (S 8 i), .int (S 9 i), .int (S 10 i), .int (S 11 i), .int (S 12 i), .int (S 13 i), .int (S 45 i), .int (S 46 i), .int (S 47 i)].set 9 (.int x)) := by
  simp [cE, up2, upd]
theorem cx_callI0 {d1 index k i ci N : Nat} {fs : List Value} {T : u_T} {Y' : Yt} {P : Int32 → MS → Prop} (hd : decode Y.2.1 pc = .ok (.invokevirtual index, 3)) (hl : cLLV Y.1.cls index Y' 0) (he : cE G Q S k i = .inr (ci, fs)) (hlm : i < lim Q k) (hcl : vwCl[ci]? = some (Y'.1.cls, T, N)) (hC : PC G (CPic G m M0 Q) d1 Y' [.ref (Q.1 k i)] S 0 0 (ri P)) (hdd : d1 + 1 ≤ d) (hcat : (st.map fun v => v.category).sum ≤ 8) (kk : ∀ x S', P x S' → PX G (CPic G m M0 Q) d Y (pc + 3) ls (.int x :: st) S' mc ms Post) : PX G (CPic G m M0 Q) d Y pc ls (.ref (Q.1 k i) :: st) S mc ms Post :=
  fun h hp => ax_budget (Nat.le_of_eq (Nat.zero_add mc)) (Nat.le_of_eq (Nat.zero_add ms)) (ax_callV hd hl (hp.1 k i hlm).1 (hp.1 k i hlm).2.1 ((hp.2.2.1 k i hlm).trans he) hcl (av := []) rfl rfl hdd hcat (hC h hp) (fun r h' hq => by obtain ⟨S', hp', x, rfl, hP⟩ := hq; exact kk x S' hP h' hp'))
theorem cx_callOI0 {d1 index k i ci N : Nat} {fs : List Value} {C : String} {T : u_T} {Y' : Yt} {x : MethodName} {P : Int32 → MS → Prop} (hd : decode Y.2.1 pc = .ok (.invokevirtual index, 3)) (hl : cLLO Y.1.cls C index x Y' 0) (he : cE G Q S k i = .inr (ci, fs)) (hlm : i < lim Q k) (hcl : vwCl[ci]? = some (C, T, N)) (hC : PC G (CPic G m M0 Q) d1 Y' [.ref (Q.1 k i)] S 0 0 (ri P)) (hdd : d1 + 1 ≤ d) (hcat : (st.map fun v => v.category).sum ≤ 8) (kk : ∀ x S', P x S' → PX G (CPic G m M0 Q) d Y (pc + 3) ls (.int x :: st) S' mc ms Post) : PX G (CPic G m M0 Q) d Y pc ls (.ref (Q.1 k i) :: st) S mc ms Post :=
  fun h hp => ax_budget (Nat.le_of_eq (Nat.zero_add mc)) (Nat.le_of_eq (Nat.zero_add ms)) (ax_callO hd hl (hp.1 k i hlm).1 (hp.1 k i hlm).2.1 ((hp.2.2.1 k i hlm).trans he) hcl (av := []) rfl rfl hdd hcat (hC h hp) (fun r h' hq => by obtain ⟨S', hp', x, rfl, hP⟩ := hq; exact kk x S' hP h' hp'))
theorem cx_callUI0 {d1 index k i ci N : Nat} {fs : List Value} {C : String} {T : u_T} {Y' : Yt} {P : Int32 → MS → Prop} (hd : decode Y.2.1 pc = .ok (.invokespecial index, 3)) (hl : cLLU Y.1.cls index Y' 0) (he : cE G Q S k i = .inr (ci, fs)) (hlm : i < lim Q k) (hcl : vwCl[ci]? = some (C, T, N)) (hC : PC G (CPic G m M0 Q) d1 Y' [.ref (Q.1 k i)] S 0 0 (ri P)) (hdd : d1 + 1 ≤ d) (hcat : (st.map fun v => v.category).sum ≤ 8) (kk : ∀ x S', P x S' → PX G (CPic G m M0 Q) d Y (pc + 3) ls (.int x :: st) S' mc ms Post) : PX G (CPic G m M0 Q) d Y pc ls (.ref (Q.1 k i) :: st) S mc ms Post :=
  fun h hp => ax_budget (Nat.le_of_eq (Nat.zero_add mc)) (Nat.le_of_eq (Nat.zero_add ms)) (ax_callU hd hl (hp.1 k i hlm).1 (hp.1 k i hlm).2.1 ((hp.2.2.1 k i hlm).trans he) hcl (av := []) rfl rfl hdd hcat (hC h hp) (fun r h' hq => by obtain ⟨S', hp', x, rfl, hP⟩ := hq; exact kk x S' hP h' hp'))
theorem cx_callV0 {d1 index k i ci N : Nat} {fs : List Value} {T : u_T} {Y' : Yt} {P : MS → Prop} (hd : decode Y.2.1 pc = .ok (.invokevirtual index, 3)) (hl : cLLV Y.1.cls index Y' 0) (he : cE G Q S k i = .inr (ci, fs)) (hlm : i < lim Q k) (hcl : vwCl[ci]? = some (Y'.1.cls, T, N)) (hC : PC G (CPic G m M0 Q) d1 Y' [.ref (Q.1 k i)] S 0 0 (rv P)) (hdd : d1 + 1 ≤ d) (hcat : (st.map fun v => v.category).sum ≤ 8) (kk : ∀ S', P S' → PX G (CPic G m M0 Q) d Y (pc + 3) ls st S' mc ms Post) : PX G (CPic G m M0 Q) d Y pc ls (.ref (Q.1 k i) :: st) S mc ms Post :=
  fun h hp => ax_budget (Nat.le_of_eq (Nat.zero_add mc)) (Nat.le_of_eq (Nat.zero_add ms)) (ax_callV hd hl (hp.1 k i hlm).1 (hp.1 k i hlm).2.1 ((hp.2.2.1 k i hlm).trans he) hcl (av := []) rfl rfl hdd hcat (hC h hp) (fun r h' hq => by obtain ⟨S', hp', rfl, hP⟩ := hq; exact kk S' hP h' hp'))
theorem cx_callOV0 {d1 index k i ci N : Nat} {fs : List Value} {C : String} {T : u_T} {Y' : Yt} {x : MethodName} {P : MS → Prop} (hd : decode Y.2.1 pc = .ok (.invokevirtual index, 3)) (hl : cLLO Y.1.cls C index x Y' 0) (he : cE G Q S k i = .inr (ci, fs)) (hlm : i < lim Q k) (hcl : vwCl[ci]? = some (C, T, N)) (hC : PC G (CPic G m M0 Q) d1 Y' [.ref (Q.1 k i)] S 0 0 (rv P)) (hdd : d1 + 1 ≤ d) (hcat : (st.map fun v => v.category).sum ≤ 8) (kk : ∀ S', P S' → PX G (CPic G m M0 Q) d Y (pc + 3) ls st S' mc ms Post) : PX G (CPic G m M0 Q) d Y pc ls (.ref (Q.1 k i) :: st) S mc ms Post :=
  fun h hp => ax_budget (Nat.le_of_eq (Nat.zero_add mc)) (Nat.le_of_eq (Nat.zero_add ms)) (ax_callO hd hl (hp.1 k i hlm).1 (hp.1 k i hlm).2.1 ((hp.2.2.1 k i hlm).trans he) hcl (av := []) rfl rfl hdd hcat (hC h hp) (fun r h' hq => by obtain ⟨S', hp', rfl, hP⟩ := hq; exact kk S' hP h' hp'))
theorem cx_callUV0 {d1 index k i ci N : Nat} {fs : List Value} {C : String} {T : u_T} {Y' : Yt} {P : MS → Prop} (hd : decode Y.2.1 pc = .ok (.invokespecial index, 3)) (hl : cLLU Y.1.cls index Y' 0) (he : cE G Q S k i = .inr (ci, fs)) (hlm : i < lim Q k) (hcl : vwCl[ci]? = some (C, T, N)) (hC : PC G (CPic G m M0 Q) d1 Y' [.ref (Q.1 k i)] S 0 0 (rv P)) (hdd : d1 + 1 ≤ d) (hcat : (st.map fun v => v.category).sum ≤ 8) (kk : ∀ S', P S' → PX G (CPic G m M0 Q) d Y (pc + 3) ls st S' mc ms Post) : PX G (CPic G m M0 Q) d Y pc ls (.ref (Q.1 k i) :: st) S mc ms Post :=
  fun h hp => ax_budget (Nat.le_of_eq (Nat.zero_add mc)) (Nat.le_of_eq (Nat.zero_add ms)) (ax_callU hd hl (hp.1 k i hlm).1 (hp.1 k i hlm).2.1 ((hp.2.2.1 k i hlm).trans he) hcl (av := []) rfl rfl hdd hcat (hC h hp) (fun r h' hq => by obtain ⟨S', hp', rfl, hP⟩ := hq; exact kk S' hP h' hp'))
theorem cx_callR0 {d1 index k i ci N : Nat} {fs : List Value} {T : u_T} {Y' : Yt} {P : Value → MS → Prop} (hd : decode Y.2.1 pc = .ok (.invokevirtual index, 3)) (hl : cLLV Y.1.cls index Y' 0) (he : cE G Q S k i = .inr (ci, fs)) (hlm : i < lim Q k) (hcl : vwCl[ci]? = some (Y'.1.cls, T, N)) (hC : PC G (CPic G m M0 Q) d1 Y' [.ref (Q.1 k i)] S 0 0 (rr P)) (hdd : d1 + 1 ≤ d) (hcat : (st.map fun v => v.category).sum ≤ 8) (kk : ∀ x S', P x S' → PX G (CPic G m M0 Q) d Y (pc + 3) ls (x :: st) S' mc ms Post) : PX G (CPic G m M0 Q) d Y pc ls (.ref (Q.1 k i) :: st) S mc ms Post :=
  fun h hp => ax_budget (Nat.le_of_eq (Nat.zero_add mc)) (Nat.le_of_eq (Nat.zero_add ms)) (ax_callV hd hl (hp.1 k i hlm).1 (hp.1 k i hlm).2.1 ((hp.2.2.1 k i hlm).trans he) hcl (av := []) rfl rfl hdd hcat (hC h hp) (fun r h' hq => by obtain ⟨S', hp', x, rfl, hP⟩ := hq; exact kk x S' hP h' hp'))
theorem cx_callOR0 {d1 index k i ci N : Nat} {fs : List Value} {C : String} {T : u_T} {Y' : Yt} {x : MethodName} {P : Value → MS → Prop} (hd : decode Y.2.1 pc = .ok (.invokevirtual index, 3)) (hl : cLLO Y.1.cls C index x Y' 0) (he : cE G Q S k i = .inr (ci, fs)) (hlm : i < lim Q k) (hcl : vwCl[ci]? = some (C, T, N)) (hC : PC G (CPic G m M0 Q) d1 Y' [.ref (Q.1 k i)] S 0 0 (rr P)) (hdd : d1 + 1 ≤ d) (hcat : (st.map fun v => v.category).sum ≤ 8) (kk : ∀ x S', P x S' → PX G (CPic G m M0 Q) d Y (pc + 3) ls (x :: st) S' mc ms Post) : PX G (CPic G m M0 Q) d Y pc ls (.ref (Q.1 k i) :: st) S mc ms Post :=
  fun h hp => ax_budget (Nat.le_of_eq (Nat.zero_add mc)) (Nat.le_of_eq (Nat.zero_add ms)) (ax_callO hd hl (hp.1 k i hlm).1 (hp.1 k i hlm).2.1 ((hp.2.2.1 k i hlm).trans he) hcl (av := []) rfl rfl hdd hcat (hC h hp) (fun r h' hq => by obtain ⟨S', hp', x, rfl, hP⟩ := hq; exact kk x S' hP h' hp'))
theorem cx_callUR0 {d1 index k i ci N : Nat} {fs : List Value} {C : String} {T : u_T} {Y' : Yt} {P : Value → MS → Prop} (hd : decode Y.2.1 pc = .ok (.invokespecial index, 3)) (hl : cLLU Y.1.cls index Y' 0) (he : cE G Q S k i = .inr (ci, fs)) (hlm : i < lim Q k) (hcl : vwCl[ci]? = some (C, T, N)) (hC : PC G (CPic G m M0 Q) d1 Y' [.ref (Q.1 k i)] S 0 0 (rr P)) (hdd : d1 + 1 ≤ d) (hcat : (st.map fun v => v.category).sum ≤ 8) (kk : ∀ x S', P x S' → PX G (CPic G m M0 Q) d Y (pc + 3) ls (x :: st) S' mc ms Post) : PX G (CPic G m M0 Q) d Y pc ls (.ref (Q.1 k i) :: st) S mc ms Post :=
  fun h hp => ax_budget (Nat.le_of_eq (Nat.zero_add mc)) (Nat.le_of_eq (Nat.zero_add ms)) (ax_callU hd hl (hp.1 k i hlm).1 (hp.1 k i hlm).2.1 ((hp.2.2.1 k i hlm).trans he) hcl (av := []) rfl rfl hdd hcat (hC h hp) (fun r h' hq => by obtain ⟨S', hp', x, rfl, hP⟩ := hq; exact kk x S' hP h' hp'))
theorem cx_callI1 {d1 index k i ci N : Nat} {fs : List Value} {T : u_T} {Y' : Yt} {v1 : Value} {P : Int32 → MS → Prop} (hd : decode Y.2.1 pc = .ok (.invokevirtual index, 3)) (hl : cLLV Y.1.cls index Y' 1) (he : cE G Q S k i = .inr (ci, fs)) (hlm : i < lim Q k) (hcl : vwCl[ci]? = some (Y'.1.cls, T, N)) (hC : PC G (CPic G m M0 Q) d1 Y' [.ref (Q.1 k i), v1] S 0 0 (ri P)) (hdd : d1 + 1 ≤ d) (hcat : (st.map fun v => v.category).sum ≤ 8) (kk : ∀ x S', P x S' → PX G (CPic G m M0 Q) d Y (pc + 3) ls (.int x :: st) S' mc ms Post) : PX G (CPic G m M0 Q) d Y pc ls (v1 :: .ref (Q.1 k i) :: st) S mc ms Post :=
  fun h hp => ax_budget (Nat.le_of_eq (Nat.zero_add mc)) (Nat.le_of_eq (Nat.zero_add ms)) (ax_callV hd hl (hp.1 k i hlm).1 (hp.1 k i hlm).2.1 ((hp.2.2.1 k i hlm).trans he) hcl (av := [v1]) rfl rfl hdd hcat (hC h hp) (fun r h' hq => by obtain ⟨S', hp', x, rfl, hP⟩ := hq; exact kk x S' hP h' hp'))
theorem cx_callOI1 {d1 index k i ci N : Nat} {fs : List Value} {C : String} {T : u_T} {Y' : Yt} {x : MethodName} {v1 : Value} {P : Int32 → MS → Prop} (hd : decode Y.2.1 pc = .ok (.invokevirtual index, 3)) (hl : cLLO Y.1.cls C index x Y' 1) (he : cE G Q S k i = .inr (ci, fs)) (hlm : i < lim Q k) (hcl : vwCl[ci]? = some (C, T, N)) (hC : PC G (CPic G m M0 Q) d1 Y' [.ref (Q.1 k i), v1] S 0 0 (ri P)) (hdd : d1 + 1 ≤ d) (hcat : (st.map fun v => v.category).sum ≤ 8) (kk : ∀ x S', P x S' → PX G (CPic G m M0 Q) d Y (pc + 3) ls (.int x :: st) S' mc ms Post) : PX G (CPic G m M0 Q) d Y pc ls (v1 :: .ref (Q.1 k i) :: st) S mc ms Post :=
  fun h hp => ax_budget (Nat.le_of_eq (Nat.zero_add mc)) (Nat.le_of_eq (Nat.zero_add ms)) (ax_callO hd hl (hp.1 k i hlm).1 (hp.1 k i hlm).2.1 ((hp.2.2.1 k i hlm).trans he) hcl (av := [v1]) rfl rfl hdd hcat (hC h hp) (fun r h' hq => by obtain ⟨S', hp', x, rfl, hP⟩ := hq; exact kk x S' hP h' hp'))
theorem cx_callUI1 {d1 index k i ci N : Nat} {fs : List Value} {C : String} {T : u_T} {Y' : Yt} {v1 : Value} {P : Int32 → MS → Prop} (hd : decode Y.2.1 pc = .ok (.invokespecial index, 3)) (hl : cLLU Y.1.cls index Y' 1) (he : cE G Q S k i = .inr (ci, fs)) (hlm : i < lim Q k) (hcl : vwCl[ci]? = some (C, T, N)) (hC : PC G (CPic G m M0 Q) d1 Y' [.ref (Q.1 k i), v1] S 0 0 (ri P)) (hdd : d1 + 1 ≤ d) (hcat : (st.map fun v => v.category).sum ≤ 8) (kk : ∀ x S', P x S' → PX G (CPic G m M0 Q) d Y (pc + 3) ls (.int x :: st) S' mc ms Post) : PX G (CPic G m M0 Q) d Y pc ls (v1 :: .ref (Q.1 k i) :: st) S mc ms Post :=
  fun h hp => ax_budget (Nat.le_of_eq (Nat.zero_add mc)) (Nat.le_of_eq (Nat.zero_add ms)) (ax_callU hd hl (hp.1 k i hlm).1 (hp.1 k i hlm).2.1 ((hp.2.2.1 k i hlm).trans he) hcl (av := [v1]) rfl rfl hdd hcat (hC h hp) (fun r h' hq => by obtain ⟨S', hp', x, rfl, hP⟩ := hq; exact kk x S' hP h' hp'))
theorem cx_callV1 {d1 index k i ci N : Nat} {fs : List Value} {T : u_T} {Y' : Yt} {v1 : Value} {P : MS → Prop} (hd : decode Y.2.1 pc = .ok (.invokevirtual index, 3)) (hl : cLLV Y.1.cls index Y' 1) (he : cE G Q S k i = .inr (ci, fs)) (hlm : i < lim Q k) (hcl : vwCl[ci]? = some (Y'.1.cls, T, N)) (hC : PC G (CPic G m M0 Q) d1 Y' [.ref (Q.1 k i), v1] S 0 0 (rv P)) (hdd : d1 + 1 ≤ d) (hcat : (st.map fun v => v.category).sum ≤ 8) (kk : ∀ S', P S' → PX G (CPic G m M0 Q) d Y (pc + 3) ls st S' mc ms Post) : PX G (CPic G m M0 Q) d Y pc ls (v1 :: .ref (Q.1 k i) :: st) S mc ms Post :=
  fun h hp => ax_budget (Nat.le_of_eq (Nat.zero_add mc)) (Nat.le_of_eq (Nat.zero_add ms)) (ax_callV hd hl (hp.1 k i hlm).1 (hp.1 k i hlm).2.1 ((hp.2.2.1 k i hlm).trans he) hcl (av := [v1]) rfl rfl hdd hcat (hC h hp) (fun r h' hq => by obtain ⟨S', hp', rfl, hP⟩ := hq; exact kk S' hP h' hp'))
theorem cx_callOV1 {d1 index k i ci N : Nat} {fs : List Value} {C : String} {T : u_T} {Y' : Yt} {x : MethodName} {v1 : Value} {P : MS → Prop} (hd : decode Y.2.1 pc = .ok (.invokevirtual index, 3)) (hl : cLLO Y.1.cls C index x Y' 1) (he : cE G Q S k i = .inr (ci, fs)) (hlm : i < lim Q k) (hcl : vwCl[ci]? = some (C, T, N)) (hC : PC G (CPic G m M0 Q) d1 Y' [.ref (Q.1 k i), v1] S 0 0 (rv P)) (hdd : d1 + 1 ≤ d) (hcat : (st.map fun v => v.category).sum ≤ 8) (kk : ∀ S', P S' → PX G (CPic G m M0 Q) d Y (pc + 3) ls st S' mc ms Post) : PX G (CPic G m M0 Q) d Y pc ls (v1 :: .ref (Q.1 k i) :: st) S mc ms Post :=
  fun h hp => ax_budget (Nat.le_of_eq (Nat.zero_add mc)) (Nat.le_of_eq (Nat.zero_add ms)) (ax_callO hd hl (hp.1 k i hlm).1 (hp.1 k i hlm).2.1 ((hp.2.2.1 k i hlm).trans he) hcl (av := [v1]) rfl rfl hdd hcat (hC h hp) (fun r h' hq => by obtain ⟨S', hp', rfl, hP⟩ := hq; exact kk S' hP h' hp'))
theorem cx_callUV1 {d1 index k i ci N : Nat} {fs : List Value} {C : String} {T : u_T} {Y' : Yt} {v1 : Value} {P : MS → Prop} (hd : decode Y.2.1 pc = .ok (.invokespecial index, 3)) (hl : cLLU Y.1.cls index Y' 1) (he : cE G Q S k i = .inr (ci, fs)) (hlm : i < lim Q k) (hcl : vwCl[ci]? = some (C, T, N)) (hC : PC G (CPic G m M0 Q) d1 Y' [.ref (Q.1 k i), v1] S 0 0 (rv P)) (hdd : d1 + 1 ≤ d) (hcat : (st.map fun v => v.category).sum ≤ 8) (kk : ∀ S', P S' → PX G (CPic G m M0 Q) d Y (pc + 3) ls st S' mc ms Post) : PX G (CPic G m M0 Q) d Y pc ls (v1 :: .ref (Q.1 k i) :: st) S mc ms Post :=
  fun h hp => ax_budget (Nat.le_of_eq (Nat.zero_add mc)) (Nat.le_of_eq (Nat.zero_add ms)) (ax_callU hd hl (hp.1 k i hlm).1 (hp.1 k i hlm).2.1 ((hp.2.2.1 k i hlm).trans he) hcl (av := [v1]) rfl rfl hdd hcat (hC h hp) (fun r h' hq => by obtain ⟨S', hp', rfl, hP⟩ := hq; exact kk S' hP h' hp'))
theorem cx_callR1 {d1 index k i ci N : Nat} {fs : List Value} {T : u_T} {Y' : Yt} {v1 : Value} {P : Value → MS → Prop} (hd : decode Y.2.1 pc = .ok (.invokevirtual index, 3)) (hl : cLLV Y.1.cls index Y' 1) (he : cE G Q S k i = .inr (ci, fs)) (hlm : i < lim Q k) (hcl : vwCl[ci]? = some (Y'.1.cls, T, N)) (hC : PC G (CPic G m M0 Q) d1 Y' [.ref (Q.1 k i), v1] S 0 0 (rr P)) (hdd : d1 + 1 ≤ d) (hcat : (st.map fun v => v.category).sum ≤ 8) (kk : ∀ x S', P x S' → PX G (CPic G m M0 Q) d Y (pc + 3) ls (x :: st) S' mc ms Post) : PX G (CPic G m M0 Q) d Y pc ls (v1 :: .ref (Q.1 k i) :: st) S mc ms Post :=
  fun h hp => ax_budget (Nat.le_of_eq (Nat.zero_add mc)) (Nat.le_of_eq (Nat.zero_add ms)) (ax_callV hd hl (hp.1 k i hlm).1 (hp.1 k i hlm).2.1 ((hp.2.2.1 k i hlm).trans he) hcl (av := [v1]) rfl rfl hdd hcat (hC h hp) (fun r h' hq => by obtain ⟨S', hp', x, rfl, hP⟩ := hq; exact kk x S' hP h' hp'))
theorem cx_callOR1 {d1 index k i ci N : Nat} {fs : List Value} {C : String} {T : u_T} {Y' : Yt} {x : MethodName} {v1 : Value} {P : Value → MS → Prop} (hd : decode Y.2.1 pc = .ok (.invokevirtual index, 3)) (hl : cLLO Y.1.cls C index x Y' 1) (he : cE G Q S k i = .inr (ci, fs)) (hlm : i < lim Q k) (hcl : vwCl[ci]? = some (C, T, N)) (hC : PC G (CPic G m M0 Q) d1 Y' [.ref (Q.1 k i), v1] S 0 0 (rr P)) (hdd : d1 + 1 ≤ d) (hcat : (st.map fun v => v.category).sum ≤ 8) (kk : ∀ x S', P x S' → PX G (CPic G m M0 Q) d Y (pc + 3) ls (x :: st) S' mc ms Post) : PX G (CPic G m M0 Q) d Y pc ls (v1 :: .ref (Q.1 k i) :: st) S mc ms Post :=
  fun h hp => ax_budget (Nat.le_of_eq (Nat.zero_add mc)) (Nat.le_of_eq (Nat.zero_add ms)) (ax_callO hd hl (hp.1 k i hlm).1 (hp.1 k i hlm).2.1 ((hp.2.2.1 k i hlm).trans he) hcl (av := [v1]) rfl rfl hdd hcat (hC h hp) (fun r h' hq => by obtain ⟨S', hp', x, rfl, hP⟩ := hq; exact kk x S' hP h' hp'))
theorem cx_callUR1 {d1 index k i ci N : Nat} {fs : List Value} {C : String} {T : u_T} {Y' : Yt} {v1 : Value} {P : Value → MS → Prop} (hd : decode Y.2.1 pc = .ok (.invokespecial index, 3)) (hl : cLLU Y.1.cls index Y' 1) (he : cE G Q S k i = .inr (ci, fs)) (hlm : i < lim Q k) (hcl : vwCl[ci]? = some (C, T, N)) (hC : PC G (CPic G m M0 Q) d1 Y' [.ref (Q.1 k i), v1] S 0 0 (rr P)) (hdd : d1 + 1 ≤ d) (hcat : (st.map fun v => v.category).sum ≤ 8) (kk : ∀ x S', P x S' → PX G (CPic G m M0 Q) d Y (pc + 3) ls (x :: st) S' mc ms Post) : PX G (CPic G m M0 Q) d Y pc ls (v1 :: .ref (Q.1 k i) :: st) S mc ms Post :=
  fun h hp => ax_budget (Nat.le_of_eq (Nat.zero_add mc)) (Nat.le_of_eq (Nat.zero_add ms)) (ax_callU hd hl (hp.1 k i hlm).1 (hp.1 k i hlm).2.1 ((hp.2.2.1 k i hlm).trans he) hcl (av := [v1]) rfl rfl hdd hcat (hC h hp) (fun r h' hq => by obtain ⟨S', hp', x, rfl, hP⟩ := hq; exact kk x S' hP h' hp'))
theorem cx_callI2 {d1 index k i ci N : Nat} {fs : List Value} {T : u_T} {Y' : Yt} {v1 v2 : Value} {P : Int32 → MS → Prop} (hd : decode Y.2.1 pc = .ok (.invokevirtual index, 3)) (hl : cLLV Y.1.cls index Y' 2) (he : cE G Q S k i = .inr (ci, fs)) (hlm : i < lim Q k) (hcl : vwCl[ci]? = some (Y'.1.cls, T, N)) (hC : PC G (CPic G m M0 Q) d1 Y' [.ref (Q.1 k i), v1, v2] S 0 0 (ri P)) (hdd : d1 + 1 ≤ d) (hcat : (st.map fun v => v.category).sum ≤ 8) (kk : ∀ x S', P x S' → PX G (CPic G m M0 Q) d Y (pc + 3) ls (.int x :: st) S' mc ms Post) : PX G (CPic G m M0 Q) d Y pc ls (v2 :: v1 :: .ref (Q.1 k i) :: st) S mc ms Post :=
  fun h hp => ax_budget (Nat.le_of_eq (Nat.zero_add mc)) (Nat.le_of_eq (Nat.zero_add ms)) (ax_callV hd hl (hp.1 k i hlm).1 (hp.1 k i hlm).2.1 ((hp.2.2.1 k i hlm).trans he) hcl (av := [v1, v2]) rfl rfl hdd hcat (hC h hp) (fun r h' hq => by obtain ⟨S', hp', x, rfl, hP⟩ := hq; exact kk x S' hP h' hp'))
theorem cx_callOI2 {d1 index k i ci N : Nat} {fs : List Value} {C : String} {T : u_T} {Y' : Yt} {x : MethodName} {v1 v2 : Value} {P : Int32 → MS → Prop} (hd : decode Y.2.1 pc = .ok (.invokevirtual index, 3)) (hl : cLLO Y.1.cls C index x Y' 2) (he : cE G Q S k i = .inr (ci, fs)) (hlm : i < lim Q k) (hcl : vwCl[ci]? = some (C, T, N)) (hC : PC G (CPic G m M0 Q) d1 Y' [.ref (Q.1 k i), v1, v2] S 0 0 (ri P)) (hdd : d1 + 1 ≤ d) (hcat : (st.map fun v => v.category).sum ≤ 8) (kk : ∀ x S', P x S' → PX G (CPic G m M0 Q) d Y (pc + 3) ls (.int x :: st) S' mc ms Post) : PX G (CPic G m M0 Q) d Y pc ls (v2 :: v1 :: .ref (Q.1 k i) :: st) S mc ms Post :=
  fun h hp => ax_budget (Nat.le_of_eq (Nat.zero_add mc)) (Nat.le_of_eq (Nat.zero_add ms)) (ax_callO hd hl (hp.1 k i hlm).1 (hp.1 k i hlm).2.1 ((hp.2.2.1 k i hlm).trans he) hcl (av := [v1, v2]) rfl rfl hdd hcat (hC h hp) (fun r h' hq => by obtain ⟨S', hp', x, rfl, hP⟩ := hq; exact kk x S' hP h' hp'))
theorem cx_callUI2 {d1 index k i ci N : Nat} {fs : List Value} {C : String} {T : u_T} {Y' : Yt} {v1 v2 : Value} {P : Int32 → MS → Prop} (hd : decode Y.2.1 pc = .ok (.invokespecial index, 3)) (hl : cLLU Y.1.cls index Y' 2) (he : cE G Q S k i = .inr (ci, fs)) (hlm : i < lim Q k) (hcl : vwCl[ci]? = some (C, T, N)) (hC : PC G (CPic G m M0 Q) d1 Y' [.ref (Q.1 k i), v1, v2] S 0 0 (ri P)) (hdd : d1 + 1 ≤ d) (hcat : (st.map fun v => v.category).sum ≤ 8) (kk : ∀ x S', P x S' → PX G (CPic G m M0 Q) d Y (pc + 3) ls (.int x :: st) S' mc ms Post) : PX G (CPic G m M0 Q) d Y pc ls (v2 :: v1 :: .ref (Q.1 k i) :: st) S mc ms Post :=
  fun h hp => ax_budget (Nat.le_of_eq (Nat.zero_add mc)) (Nat.le_of_eq (Nat.zero_add ms)) (ax_callU hd hl (hp.1 k i hlm).1 (hp.1 k i hlm).2.1 ((hp.2.2.1 k i hlm).trans he) hcl (av := [v1, v2]) rfl rfl hdd hcat (hC h hp) (fun r h' hq => by obtain ⟨S', hp', x, rfl, hP⟩ := hq; exact kk x S' hP h' hp'))
theorem cx_callV2 {d1 index k i ci N : Nat} {fs : List Value} {T : u_T} {Y' : Yt} {v1 v2 : Value} {P : MS → Prop} (hd : decode Y.2.1 pc = .ok (.invokevirtual index, 3)) (hl : cLLV Y.1.cls index Y' 2) (he : cE G Q S k i = .inr (ci, fs)) (hlm : i < lim Q k) (hcl : vwCl[ci]? = some (Y'.1.cls, T, N)) (hC : PC G (CPic G m M0 Q) d1 Y' [.ref (Q.1 k i), v1, v2] S 0 0 (rv P)) (hdd : d1 + 1 ≤ d) (hcat : (st.map fun v => v.category).sum ≤ 8) (kk : ∀ S', P S' → PX G (CPic G m M0 Q) d Y (pc + 3) ls st S' mc ms Post) : PX G (CPic G m M0 Q) d Y pc ls (v2 :: v1 :: .ref (Q.1 k i) :: st) S mc ms Post :=
  fun h hp => ax_budget (Nat.le_of_eq (Nat.zero_add mc)) (Nat.le_of_eq (Nat.zero_add ms)) (ax_callV hd hl (hp.1 k i hlm).1 (hp.1 k i hlm).2.1 ((hp.2.2.1 k i hlm).trans he) hcl (av := [v1, v2]) rfl rfl hdd hcat (hC h hp) (fun r h' hq => by obtain ⟨S', hp', rfl, hP⟩ := hq; exact kk S' hP h' hp'))
theorem cx_callOV2 {d1 index k i ci N : Nat} {fs : List Value} {C : String} {T : u_T} {Y' : Yt} {x : MethodName} {v1 v2 : Value} {P : MS → Prop} (hd : decode Y.2.1 pc = .ok (.invokevirtual index, 3)) (hl : cLLO Y.1.cls C index x Y' 2) (he : cE G Q S k i = .inr (ci, fs)) (hlm : i < lim Q k) (hcl : vwCl[ci]? = some (C, T, N)) (hC : PC G (CPic G m M0 Q) d1 Y' [.ref (Q.1 k i), v1, v2] S 0 0 (rv P)) (hdd : d1 + 1 ≤ d) (hcat : (st.map fun v => v.category).sum ≤ 8) (kk : ∀ S', P S' → PX G (CPic G m M0 Q) d Y (pc + 3) ls st S' mc ms Post) : PX G (CPic G m M0 Q) d Y pc ls (v2 :: v1 :: .ref (Q.1 k i) :: st) S mc ms Post :=
  fun h hp => ax_budget (Nat.le_of_eq (Nat.zero_add mc)) (Nat.le_of_eq (Nat.zero_add ms)) (ax_callO hd hl (hp.1 k i hlm).1 (hp.1 k i hlm).2.1 ((hp.2.2.1 k i hlm).trans he) hcl (av := [v1, v2]) rfl rfl hdd hcat (hC h hp) (fun r h' hq => by obtain ⟨S', hp', rfl, hP⟩ := hq; exact kk S' hP h' hp'))
theorem cx_callUV2 {d1 index k i ci N : Nat} {fs : List Value} {C : String} {T : u_T} {Y' : Yt} {v1 v2 : Value} {P : MS → Prop} (hd : decode Y.2.1 pc = .ok (.invokespecial index, 3)) (hl : cLLU Y.1.cls index Y' 2) (he : cE G Q S k i = .inr (ci, fs)) (hlm : i < lim Q k) (hcl : vwCl[ci]? = some (C, T, N)) (hC : PC G (CPic G m M0 Q) d1 Y' [.ref (Q.1 k i), v1, v2] S 0 0 (rv P)) (hdd : d1 + 1 ≤ d) (hcat : (st.map fun v => v.category).sum ≤ 8) (kk : ∀ S', P S' → PX G (CPic G m M0 Q) d Y (pc + 3) ls st S' mc ms Post) : PX G (CPic G m M0 Q) d Y pc ls (v2 :: v1 :: .ref (Q.1 k i) :: st) S mc ms Post :=
  fun h hp => ax_budget (Nat.le_of_eq (Nat.zero_add mc)) (Nat.le_of_eq (Nat.zero_add ms)) (ax_callU hd hl (hp.1 k i hlm).1 (hp.1 k i hlm).2.1 ((hp.2.2.1 k i hlm).trans he) hcl (av := [v1, v2]) rfl rfl hdd hcat (hC h hp) (fun r h' hq => by obtain ⟨S', hp', rfl, hP⟩ := hq; exact kk S' hP h' hp'))
theorem cx_callR2 {d1 index k i ci N : Nat} {fs : List Value} {T : u_T} {Y' : Yt} {v1 v2 : Value} {P : Value → MS → Prop} (hd : decode Y.2.1 pc = .ok (.invokevirtual index, 3)) (hl : cLLV Y.1.cls index Y' 2) (he : cE G Q S k i = .inr (ci, fs)) (hlm : i < lim Q k) (hcl : vwCl[ci]? = some (Y'.1.cls, T, N)) (hC : PC G (CPic G m M0 Q) d1 Y' [.ref (Q.1 k i), v1, v2] S 0 0 (rr P)) (hdd : d1 + 1 ≤ d) (hcat : (st.map fun v => v.category).sum ≤ 8) (kk : ∀ x S', P x S' → PX G (CPic G m M0 Q) d Y (pc + 3) ls (x :: st) S' mc ms Post) : PX G (CPic G m M0 Q) d Y pc ls (v2 :: v1 :: .ref (Q.1 k i) :: st) S mc ms Post :=
  fun h hp => ax_budget (Nat.le_of_eq (Nat.zero_add mc)) (Nat.le_of_eq (Nat.zero_add ms)) (ax_callV hd hl (hp.1 k i hlm).1 (hp.1 k i hlm).2.1 ((hp.2.2.1 k i hlm).trans he) hcl (av := [v1, v2]) rfl rfl hdd hcat (hC h hp) (fun r h' hq => by obtain ⟨S', hp', x, rfl, hP⟩ := hq; exact kk x S' hP h' hp'))
theorem cx_callOR2 {d1 index k i ci N : Nat} {fs : List Value} {C : String} {T : u_T} {Y' : Yt} {x : MethodName} {v1 v2 : Value} {P : Value → MS → Prop} (hd : decode Y.2.1 pc = .ok (.invokevirtual index, 3)) (hl : cLLO Y.1.cls C index x Y' 2) (he : cE G Q S k i = .inr (ci, fs)) (hlm : i < lim Q k) (hcl : vwCl[ci]? = some (C, T, N)) (hC : PC G (CPic G m M0 Q) d1 Y' [.ref (Q.1 k i), v1, v2] S 0 0 (rr P)) (hdd : d1 + 1 ≤ d) (hcat : (st.map fun v => v.category).sum ≤ 8) (kk : ∀ x S', P x S' → PX G (CPic G m M0 Q) d Y (pc + 3) ls (x :: st) S' mc ms Post) : PX G (CPic G m M0 Q) d Y pc ls (v2 :: v1 :: .ref (Q.1 k i) :: st) S mc ms Post :=
  fun h hp => ax_budget (Nat.le_of_eq (Nat.zero_add mc)) (Nat.le_of_eq (Nat.zero_add ms)) (ax_callO hd hl (hp.1 k i hlm).1 (hp.1 k i hlm).2.1 ((hp.2.2.1 k i hlm).trans he) hcl (av := [v1, v2]) rfl rfl hdd hcat (hC h hp) (fun r h' hq => by obtain ⟨S', hp', x, rfl, hP⟩ := hq; exact kk x S' hP h' hp'))
theorem cx_callUR2 {d1 index k i ci N : Nat} {fs : List Value} {C : String} {T : u_T} {Y' : Yt} {v1 v2 : Value} {P : Value → MS → Prop} (hd : decode Y.2.1 pc = .ok (.invokespecial index, 3)) (hl : cLLU Y.1.cls index Y' 2) (he : cE G Q S k i = .inr (ci, fs)) (hlm : i < lim Q k) (hcl : vwCl[ci]? = some (C, T, N)) (hC : PC G (CPic G m M0 Q) d1 Y' [.ref (Q.1 k i), v1, v2] S 0 0 (rr P)) (hdd : d1 + 1 ≤ d) (hcat : (st.map fun v => v.category).sum ≤ 8) (kk : ∀ x S', P x S' → PX G (CPic G m M0 Q) d Y (pc + 3) ls (x :: st) S' mc ms Post) : PX G (CPic G m M0 Q) d Y pc ls (v2 :: v1 :: .ref (Q.1 k i) :: st) S mc ms Post :=
  fun h hp => ax_budget (Nat.le_of_eq (Nat.zero_add mc)) (Nat.le_of_eq (Nat.zero_add ms)) (ax_callU hd hl (hp.1 k i hlm).1 (hp.1 k i hlm).2.1 ((hp.2.2.1 k i hlm).trans he) hcl (av := [v1, v2]) rfl rfl hdd hcat (hC h hp) (fun r h' hq => by obtain ⟨S', hp', x, rfl, hP⟩ := hq; exact kk x S' hP h' hp'))
theorem cx_callI3 {d1 index k i ci N : Nat} {fs : List Value} {T : u_T} {Y' : Yt} {v1 v2 v3 : Value} {P : Int32 → MS → Prop} (hd : decode Y.2.1 pc = .ok (.invokevirtual index, 3)) (hl : cLLV Y.1.cls index Y' 3) (he : cE G Q S k i = .inr (ci, fs)) (hlm : i < lim Q k) (hcl : vwCl[ci]? = some (Y'.1.cls, T, N)) (hC : PC G (CPic G m M0 Q) d1 Y' [.ref (Q.1 k i), v1, v2, v3] S 0 0 (ri P)) (hdd : d1 + 1 ≤ d) (hcat : (st.map fun v => v.category).sum ≤ 8) (kk : ∀ x S', P x S' → PX G (CPic G m M0 Q) d Y (pc + 3) ls (.int x :: st) S' mc ms Post) : PX G (CPic G m M0 Q) d Y pc ls (v3 :: v2 :: v1 :: .ref (Q.1 k i) :: st) S mc ms Post :=
  fun h hp => ax_budget (Nat.le_of_eq (Nat.zero_add mc)) (Nat.le_of_eq (Nat.zero_add ms)) (ax_callV hd hl (hp.1 k i hlm).1 (hp.1 k i hlm).2.1 ((hp.2.2.1 k i hlm).trans he) hcl (av := [v1, v2, v3]) rfl rfl hdd hcat (hC h hp) (fun r h' hq => by obtain ⟨S', hp', x, rfl, hP⟩ := hq; exact kk x S' hP h' hp'))
theorem cx_callOI3 {d1 index k i ci N : Nat} {fs : List Value} {C : String} {T : u_T} {Y' : Yt} {x : MethodName} {v1 v2 v3 : Value} {P : Int32 → MS → Prop} (hd : decode Y.2.1 pc = .ok (.invokevirtual index, 3)) (hl : cLLO Y.1.cls C index x Y' 3) (he : cE G Q S k i = .inr (ci, fs)) (hlm : i < lim Q k) (hcl : vwCl[ci]? = some (C, T, N)) (hC : PC G (CPic G m M0 Q) d1 Y' [.ref (Q.1 k i), v1, v2, v3] S 0 0 (ri P)) (hdd : d1 + 1 ≤ d) (hcat : (st.map fun v => v.category).sum ≤ 8) (kk : ∀ x S', P x S' → PX G (CPic G m M0 Q) d Y (pc + 3) ls (.int x :: st) S' mc ms Post) : PX G (CPic G m M0 Q) d Y pc ls (v3 :: v2 :: v1 :: .ref (Q.1 k i) :: st) S mc ms Post :=
  fun h hp => ax_budget (Nat.le_of_eq (Nat.zero_add mc)) (Nat.le_of_eq (Nat.zero_add ms)) (ax_callO hd hl (hp.1 k i hlm).1 (hp.1 k i hlm).2.1 ((hp.2.2.1 k i hlm).trans he) hcl (av := [v1, v2, v3]) rfl rfl hdd hcat (hC h hp) (fun r h' hq => by obtain ⟨S', hp', x, rfl, hP⟩ := hq; exact kk x S' hP h' hp'))
theorem cx_callUI3 {d1 index k i ci N : Nat} {fs : List Value} {C : String} {T : u_T} {Y' : Yt} {v1 v2 v3 : Value} {P : Int32 → MS → Prop} (hd : decode Y.2.1 pc = .ok (.invokespecial index, 3)) (hl : cLLU Y.1.cls index Y' 3) (he : cE G Q S k i = .inr (ci, fs)) (hlm : i < lim Q k) (hcl : vwCl[ci]? = some (C, T, N)) (hC : PC G (CPic G m M0 Q) d1 Y' [.ref (Q.1 k i), v1, v2, v3] S 0 0 (ri P)) (hdd : d1 + 1 ≤ d) (hcat : (st.map fun v => v.category).sum ≤ 8) (kk : ∀ x S', P x S' → PX G (CPic G m M0 Q) d Y (pc + 3) ls (.int x :: st) S' mc ms Post) : PX G (CPic G m M0 Q) d Y pc ls (v3 :: v2 :: v1 :: .ref (Q.1 k i) :: st) S mc ms Post :=
  fun h hp => ax_budget (Nat.le_of_eq (Nat.zero_add mc)) (Nat.le_of_eq (Nat.zero_add ms)) (ax_callU hd hl (hp.1 k i hlm).1 (hp.1 k i hlm).2.1 ((hp.2.2.1 k i hlm).trans he) hcl (av := [v1, v2, v3]) rfl rfl hdd hcat (hC h hp) (fun r h' hq => by obtain ⟨S', hp', x, rfl, hP⟩ := hq; exact kk x S' hP h' hp'))
theorem cx_callV3 {d1 index k i ci N : Nat} {fs : List Value} {T : u_T} {Y' : Yt} {v1 v2 v3 : Value} {P : MS → Prop} (hd : decode Y.2.1 pc = .ok (.invokevirtual index, 3)) (hl : cLLV Y.1.cls index Y' 3) (he : cE G Q S k i = .inr (ci, fs)) (hlm : i < lim Q k) (hcl : vwCl[ci]? = some (Y'.1.cls, T, N)) (hC : PC G (CPic G m M0 Q) d1 Y' [.ref (Q.1 k i), v1, v2, v3] S 0 0 (rv P)) (hdd : d1 + 1 ≤ d) (hcat : (st.map fun v => v.category).sum ≤ 8) (kk : ∀ S', P S' → PX G (CPic G m M0 Q) d Y (pc + 3) ls st S' mc ms Post) : PX G (CPic G m M0 Q) d Y pc ls (v3 :: v2 :: v1 :: .ref (Q.1 k i) :: st) S mc ms Post :=
  fun h hp => ax_budget (Nat.le_of_eq (Nat.zero_add mc)) (Nat.le_of_eq (Nat.zero_add ms)) (ax_callV hd hl (hp.1 k i hlm).1 (hp.1 k i hlm).2.1 ((hp.2.2.1 k i hlm).trans he) hcl (av := [v1, v2, v3]) rfl rfl hdd hcat (hC h hp) (fun r h' hq => by obtain ⟨S', hp', rfl, hP⟩ := hq; exact kk S' hP h' hp'))
theorem cx_callOV3 {d1 index k i ci N : Nat} {fs : List Value} {C : String} {T : u_T} {Y' : Yt} {x : MethodName} {v1 v2 v3 : Value} {P : MS → Prop} (hd : decode Y.2.1 pc = .ok (.invokevirtual index, 3)) (hl : cLLO Y.1.cls C index x Y' 3) (he : cE G Q S k i = .inr (ci, fs)) (hlm : i < lim Q k) (hcl : vwCl[ci]? = some (C, T, N)) (hC : PC G (CPic G m M0 Q) d1 Y' [.ref (Q.1 k i), v1, v2, v3] S 0 0 (rv P)) (hdd : d1 + 1 ≤ d) (hcat : (st.map fun v => v.category).sum ≤ 8) (kk : ∀ S', P S' → PX G (CPic G m M0 Q) d Y (pc + 3) ls st S' mc ms Post) : PX G (CPic G m M0 Q) d Y pc ls (v3 :: v2 :: v1 :: .ref (Q.1 k i) :: st) S mc ms Post :=
  fun h hp => ax_budget (Nat.le_of_eq (Nat.zero_add mc)) (Nat.le_of_eq (Nat.zero_add ms)) (ax_callO hd hl (hp.1 k i hlm).1 (hp.1 k i hlm).2.1 ((hp.2.2.1 k i hlm).trans he) hcl (av := [v1, v2, v3]) rfl rfl hdd hcat (hC h hp) (fun r h' hq => by obtain ⟨S', hp', rfl, hP⟩ := hq; exact kk S' hP h' hp'))
theorem cx_callUV3 {d1 index k i ci N : Nat} {fs : List Value} {C : String} {T : u_T} {Y' : Yt} {v1 v2 v3 : Value} {P : MS → Prop} (hd : decode Y.2.1 pc = .ok (.invokespecial index, 3)) (hl : cLLU Y.1.cls index Y' 3) (he : cE G Q S k i = .inr (ci, fs)) (hlm : i < lim Q k) (hcl : vwCl[ci]? = some (C, T, N)) (hC : PC G (CPic G m M0 Q) d1 Y' [.ref (Q.1 k i), v1, v2, v3] S 0 0 (rv P)) (hdd : d1 + 1 ≤ d) (hcat : (st.map fun v => v.category).sum ≤ 8) (kk : ∀ S', P S' → PX G (CPic G m M0 Q) d Y (pc + 3) ls st S' mc ms Post) : PX G (CPic G m M0 Q) d Y pc ls (v3 :: v2 :: v1 :: .ref (Q.1 k i) :: st) S mc ms Post :=
  fun h hp => ax_budget (Nat.le_of_eq (Nat.zero_add mc)) (Nat.le_of_eq (Nat.zero_add ms)) (ax_callU hd hl (hp.1 k i hlm).1 (hp.1 k i hlm).2.1 ((hp.2.2.1 k i hlm).trans he) hcl (av := [v1, v2, v3]) rfl rfl hdd hcat (hC h hp) (fun r h' hq => by obtain ⟨S', hp', rfl, hP⟩ := hq; exact kk S' hP h' hp'))
theorem cx_callR3 {d1 index k i ci N : Nat} {fs : List Value} {T : u_T} {Y' : Yt} {v1 v2 v3 : Value} {P : Value → MS → Prop} (hd : decode Y.2.1 pc = .ok (.invokevirtual index, 3)) (hl : cLLV Y.1.cls index Y' 3) (he : cE G Q S k i = .inr (ci, fs)) (hlm : i < lim Q k) (hcl : vwCl[ci]? = some (Y'.1.cls, T, N)) (hC : PC G (CPic G m M0 Q) d1 Y' [.ref (Q.1 k i), v1, v2, v3] S 0 0 (rr P)) (hdd : d1 + 1 ≤ d) (hcat : (st.map fun v => v.category).sum ≤ 8) (kk : ∀ x S', P x S' → PX G (CPic G m M0 Q) d Y (pc + 3) ls (x :: st) S' mc ms Post) : PX G (CPic G m M0 Q) d Y pc ls (v3 :: v2 :: v1 :: .ref (Q.1 k i) :: st) S mc ms Post :=
  fun h hp => ax_budget (Nat.le_of_eq (Nat.zero_add mc)) (Nat.le_of_eq (Nat.zero_add ms)) (ax_callV hd hl (hp.1 k i hlm).1 (hp.1 k i hlm).2.1 ((hp.2.2.1 k i hlm).trans he) hcl (av := [v1, v2, v3]) rfl rfl hdd hcat (hC h hp) (fun r h' hq => by obtain ⟨S', hp', x, rfl, hP⟩ := hq; exact kk x S' hP h' hp'))
theorem cx_callOR3 {d1 index k i ci N : Nat} {fs : List Value} {C : String} {T : u_T} {Y' : Yt} {x : MethodName} {v1 v2 v3 : Value} {P : Value → MS → Prop} (hd : decode Y.2.1 pc = .ok (.invokevirtual index, 3)) (hl : cLLO Y.1.cls C index x Y' 3) (he : cE G Q S k i = .inr (ci, fs)) (hlm : i < lim Q k) (hcl : vwCl[ci]? = some (C, T, N)) (hC : PC G (CPic G m M0 Q) d1 Y' [.ref (Q.1 k i), v1, v2, v3] S 0 0 (rr P)) (hdd : d1 + 1 ≤ d) (hcat : (st.map fun v => v.category).sum ≤ 8) (kk : ∀ x S', P x S' → PX G (CPic G m M0 Q) d Y (pc + 3) ls (x :: st) S' mc ms Post) : PX G (CPic G m M0 Q) d Y pc ls (v3 :: v2 :: v1 :: .ref (Q.1 k i) :: st) S mc ms Post :=
  fun h hp => ax_budget (Nat.le_of_eq (Nat.zero_add mc)) (Nat.le_of_eq (Nat.zero_add ms)) (ax_callO hd hl (hp.1 k i hlm).1 (hp.1 k i hlm).2.1 ((hp.2.2.1 k i hlm).trans he) hcl (av := [v1, v2, v3]) rfl rfl hdd hcat (hC h hp) (fun r h' hq => by obtain ⟨S', hp', x, rfl, hP⟩ := hq; exact kk x S' hP h' hp'))
theorem cx_callUR3 {d1 index k i ci N : Nat} {fs : List Value} {C : String} {T : u_T} {Y' : Yt} {v1 v2 v3 : Value} {P : Value → MS → Prop} (hd : decode Y.2.1 pc = .ok (.invokespecial index, 3)) (hl : cLLU Y.1.cls index Y' 3) (he : cE G Q S k i = .inr (ci, fs)) (hlm : i < lim Q k) (hcl : vwCl[ci]? = some (C, T, N)) (hC : PC G (CPic G m M0 Q) d1 Y' [.ref (Q.1 k i), v1, v2, v3] S 0 0 (rr P)) (hdd : d1 + 1 ≤ d) (hcat : (st.map fun v => v.category).sum ≤ 8) (kk : ∀ x S', P x S' → PX G (CPic G m M0 Q) d Y (pc + 3) ls (x :: st) S' mc ms Post) : PX G (CPic G m M0 Q) d Y pc ls (v3 :: v2 :: v1 :: .ref (Q.1 k i) :: st) S mc ms Post :=
  fun h hp => ax_budget (Nat.le_of_eq (Nat.zero_add mc)) (Nat.le_of_eq (Nat.zero_add ms)) (ax_callU hd hl (hp.1 k i hlm).1 (hp.1 k i hlm).2.1 ((hp.2.2.1 k i hlm).trans he) hcl (av := [v1, v2, v3]) rfl rfl hdd hcat (hC h hp) (fun r h' hq => by obtain ⟨S', hp', x, rfl, hP⟩ := hq; exact kk x S' hP h' hp'))
theorem cx_callI4 {d1 index k i ci N : Nat} {fs : List Value} {T : u_T} {Y' : Yt} {v1 v2 v3 v4 : Value} {P : Int32 → MS → Prop} (hd : decode Y.2.1 pc = .ok (.invokevirtual index, 3)) (hl : cLLV Y.1.cls index Y' 4) (he : cE G Q S k i = .inr (ci, fs)) (hlm : i < lim Q k) (hcl : vwCl[ci]? = some (Y'.1.cls, T, N)) (hC : PC G (CPic G m M0 Q) d1 Y' [.ref (Q.1 k i), v1, v2, v3, v4] S 0 0 (ri P)) (hdd : d1 + 1 ≤ d) (hcat : (st.map fun v => v.category).sum ≤ 8) (kk : ∀ x S', P x S' → PX G (CPic G m M0 Q) d Y (pc + 3) ls (.int x :: st) S' mc ms Post) : PX G (CPic G m M0 Q) d Y pc ls (v4 :: v3 :: v2 :: v1 :: .ref (Q.1 k i) :: st) S mc ms Post :=
  fun h hp => ax_budget (Nat.le_of_eq (Nat.zero_add mc)) (Nat.le_of_eq (Nat.zero_add ms)) (ax_callV hd hl (hp.1 k i hlm).1 (hp.1 k i hlm).2.1 ((hp.2.2.1 k i hlm).trans he) hcl (av := [v1, v2, v3, v4]) rfl rfl hdd hcat (hC h hp) (fun r h' hq => by obtain ⟨S', hp', x, rfl, hP⟩ := hq; exact kk x S' hP h' hp'))
theorem cx_callOI4 {d1 index k i ci N : Nat} {fs : List Value} {C : String} {T : u_T} {Y' : Yt} {x : MethodName} {v1 v2 v3 v4 : Value} {P : Int32 → MS → Prop} (hd : decode Y.2.1 pc = .ok (.invokevirtual index, 3)) (hl : cLLO Y.1.cls C index x Y' 4) (he : cE G Q S k i = .inr (ci, fs)) (hlm : i < lim Q k) (hcl : vwCl[ci]? = some (C, T, N)) (hC : PC G (CPic G m M0 Q) d1 Y' [.ref (Q.1 k i), v1, v2, v3, v4] S 0 0 (ri P)) (hdd : d1 + 1 ≤ d) (hcat : (st.map fun v => v.category).sum ≤ 8) (kk : ∀ x S', P x S' → PX G (CPic G m M0 Q) d Y (pc + 3) ls (.int x :: st) S' mc ms Post) : PX G (CPic G m M0 Q) d Y pc ls (v4 :: v3 :: v2 :: v1 :: .ref (Q.1 k i) :: st) S mc ms Post :=
  fun h hp => ax_budget (Nat.le_of_eq (Nat.zero_add mc)) (Nat.le_of_eq (Nat.zero_add ms)) (ax_callO hd hl (hp.1 k i hlm).1 (hp.1 k i hlm).2.1 ((hp.2.2.1 k i hlm).trans he) hcl (av := [v1, v2, v3, v4]) rfl rfl hdd hcat (hC h hp) (fun r h' hq => by obtain ⟨S', hp', x, rfl, hP⟩ := hq; exact kk x S' hP h' hp'))
theorem cx_callUI4 {d1 index k i ci N : Nat} {fs : List Value} {C : String} {T : u_T} {Y' : Yt} {v1 v2 v3 v4 : Value} {P : Int32 → MS → Prop} (hd : decode Y.2.1 pc = .ok (.invokespecial index, 3)) (hl : cLLU Y.1.cls index Y' 4) (he : cE G Q S k i = .inr (ci, fs)) (hlm : i < lim Q k) (hcl : vwCl[ci]? = some (C, T, N)) (hC : PC G (CPic G m M0 Q) d1 Y' [.ref (Q.1 k i), v1, v2, v3, v4] S 0 0 (ri P)) (hdd : d1 + 1 ≤ d) (hcat : (st.map fun v => v.category).sum ≤ 8) (kk : ∀ x S', P x S' → PX G (CPic G m M0 Q) d Y (pc + 3) ls (.int x :: st) S' mc ms Post) : PX G (CPic G m M0 Q) d Y pc ls (v4 :: v3 :: v2 :: v1 :: .ref (Q.1 k i) :: st) S mc ms Post :=
  fun h hp => ax_budget (Nat.le_of_eq (Nat.zero_add mc)) (Nat.le_of_eq (Nat.zero_add ms)) (ax_callU hd hl (hp.1 k i hlm).1 (hp.1 k i hlm).2.1 ((hp.2.2.1 k i hlm).trans he) hcl (av := [v1, v2, v3, v4]) rfl rfl hdd hcat (hC h hp) (fun r h' hq => by obtain ⟨S', hp', x, rfl, hP⟩ := hq; exact kk x S' hP h' hp'))
theorem cx_callV4 {d1 index k i ci N : Nat} {fs : List Value} {T : u_T} {Y' : Yt} {v1 v2 v3 v4 : Value} {P : MS → Prop} (hd : decode Y.2.1 pc = .ok (.invokevirtual index, 3)) (hl : cLLV Y.1.cls index Y' 4) (he : cE G Q S k i = .inr (ci, fs)) (hlm : i < lim Q k) (hcl : vwCl[ci]? = some (Y'.1.cls, T, N)) (hC : PC G (CPic G m M0 Q) d1 Y' [.ref (Q.1 k i), v1, v2, v3, v4] S 0 0 (rv P)) (hdd : d1 + 1 ≤ d) (hcat : (st.map fun v => v.category).sum ≤ 8) (kk : ∀ S', P S' → PX G (CPic G m M0 Q) d Y (pc + 3) ls st S' mc ms Post) : PX G (CPic G m M0 Q) d Y pc ls (v4 :: v3 :: v2 :: v1 :: .ref (Q.1 k i) :: st) S mc ms Post :=
  fun h hp => ax_budget (Nat.le_of_eq (Nat.zero_add mc)) (Nat.le_of_eq (Nat.zero_add ms)) (ax_callV hd hl (hp.1 k i hlm).1 (hp.1 k i hlm).2.1 ((hp.2.2.1 k i hlm).trans he) hcl (av := [v1, v2, v3, v4]) rfl rfl hdd hcat (hC h hp) (fun r h' hq => by obtain ⟨S', hp', rfl, hP⟩ := hq; exact kk S' hP h' hp'))
theorem cx_callOV4 {d1 index k i ci N : Nat} {fs : List Value} {C : String} {T : u_T} {Y' : Yt} {x : MethodName} {v1 v2 v3 v4 : Value} {P : MS → Prop} (hd : decode Y.2.1 pc = .ok (.invokevirtual index, 3)) (hl : cLLO Y.1.cls C index x Y' 4) (he : cE G Q S k i = .inr (ci, fs)) (hlm : i < lim Q k) (hcl : vwCl[ci]? = some (C, T, N)) (hC : PC G (CPic G m M0 Q) d1 Y' [.ref (Q.1 k i), v1, v2, v3, v4] S 0 0 (rv P)) (hdd : d1 + 1 ≤ d) (hcat : (st.map fun v => v.category).sum ≤ 8) (kk : ∀ S', P S' → PX G (CPic G m M0 Q) d Y (pc + 3) ls st S' mc ms Post) : PX G (CPic G m M0 Q) d Y pc ls (v4 :: v3 :: v2 :: v1 :: .ref (Q.1 k i) :: st) S mc ms Post :=
  fun h hp => ax_budget (Nat.le_of_eq (Nat.zero_add mc)) (Nat.le_of_eq (Nat.zero_add ms)) (ax_callO hd hl (hp.1 k i hlm).1 (hp.1 k i hlm).2.1 ((hp.2.2.1 k i hlm).trans he) hcl (av := [v1, v2, v3, v4]) rfl rfl hdd hcat (hC h hp) (fun r h' hq => by obtain ⟨S', hp', rfl, hP⟩ := hq; exact kk S' hP h' hp'))
theorem cx_callUV4 {d1 index k i ci N : Nat} {fs : List Value} {C : String} {T : u_T} {Y' : Yt} {v1 v2 v3 v4 : Value} {P : MS → Prop} (hd : decode Y.2.1 pc = .ok (.invokespecial index, 3)) (hl : cLLU Y.1.cls index Y' 4) (he : cE G Q S k i = .inr (ci, fs)) (hlm : i < lim Q k) (hcl : vwCl[ci]? = some (C, T, N)) (hC : PC G (CPic G m M0 Q) d1 Y' [.ref (Q.1 k i), v1, v2, v3, v4] S 0 0 (rv P)) (hdd : d1 + 1 ≤ d) (hcat : (st.map fun v => v.category).sum ≤ 8) (kk : ∀ S', P S' → PX G (CPic G m M0 Q) d Y (pc + 3) ls st S' mc ms Post) : PX G (CPic G m M0 Q) d Y pc ls (v4 :: v3 :: v2 :: v1 :: .ref (Q.1 k i) :: st) S mc ms Post :=
  fun h hp => ax_budget (Nat.le_of_eq (Nat.zero_add mc)) (Nat.le_of_eq (Nat.zero_add ms)) (ax_callU hd hl (hp.1 k i hlm).1 (hp.1 k i hlm).2.1 ((hp.2.2.1 k i hlm).trans he) hcl (av := [v1, v2, v3, v4]) rfl rfl hdd hcat (hC h hp) (fun r h' hq => by obtain ⟨S', hp', rfl, hP⟩ := hq; exact kk S' hP h' hp'))
theorem cx_callR4 {d1 index k i ci N : Nat} {fs : List Value} {T : u_T} {Y' : Yt} {v1 v2 v3 v4 : Value} {P : Value → MS → Prop} (hd : decode Y.2.1 pc = .ok (.invokevirtual index, 3)) (hl : cLLV Y.1.cls index Y' 4) (he : cE G Q S k i = .inr (ci, fs)) (hlm : i < lim Q k) (hcl : vwCl[ci]? = some (Y'.1.cls, T, N)) (hC : PC G (CPic G m M0 Q) d1 Y' [.ref (Q.1 k i), v1, v2, v3, v4] S 0 0 (rr P)) (hdd : d1 + 1 ≤ d) (hcat : (st.map fun v => v.category).sum ≤ 8) (kk : ∀ x S', P x S' → PX G (CPic G m M0 Q) d Y (pc + 3) ls (x :: st) S' mc ms Post) : PX G (CPic G m M0 Q) d Y pc ls (v4 :: v3 :: v2 :: v1 :: .ref (Q.1 k i) :: st) S mc ms Post :=
  fun h hp => ax_budget (Nat.le_of_eq (Nat.zero_add mc)) (Nat.le_of_eq (Nat.zero_add ms)) (ax_callV hd hl (hp.1 k i hlm).1 (hp.1 k i hlm).2.1 ((hp.2.2.1 k i hlm).trans he) hcl (av := [v1, v2, v3, v4]) rfl rfl hdd hcat (hC h hp) (fun r h' hq => by obtain ⟨S', hp', x, rfl, hP⟩ := hq; exact kk x S' hP h' hp'))
theorem cx_callOR4 {d1 index k i ci N : Nat} {fs : List Value} {C : String} {T : u_T} {Y' : Yt} {x : MethodName} {v1 v2 v3 v4 : Value} {P : Value → MS → Prop} (hd : decode Y.2.1 pc = .ok (.invokevirtual index, 3)) (hl : cLLO Y.1.cls C index x Y' 4) (he : cE G Q S k i = .inr (ci, fs)) (hlm : i < lim Q k) (hcl : vwCl[ci]? = some (C, T, N)) (hC : PC G (CPic G m M0 Q) d1 Y' [.ref (Q.1 k i), v1, v2, v3, v4] S 0 0 (rr P)) (hdd : d1 + 1 ≤ d) (hcat : (st.map fun v => v.category).sum ≤ 8) (kk : ∀ x S', P x S' → PX G (CPic G m M0 Q) d Y (pc + 3) ls (x :: st) S' mc ms Post) : PX G (CPic G m M0 Q) d Y pc ls (v4 :: v3 :: v2 :: v1 :: .ref (Q.1 k i) :: st) S mc ms Post :=
  fun h hp => ax_budget (Nat.le_of_eq (Nat.zero_add mc)) (Nat.le_of_eq (Nat.zero_add ms)) (ax_callO hd hl (hp.1 k i hlm).1 (hp.1 k i hlm).2.1 ((hp.2.2.1 k i hlm).trans he) hcl (av := [v1, v2, v3, v4]) rfl rfl hdd hcat (hC h hp) (fun r h' hq => by obtain ⟨S', hp', x, rfl, hP⟩ := hq; exact kk x S' hP h' hp'))
theorem cx_callUR4 {d1 index k i ci N : Nat} {fs : List Value} {C : String} {T : u_T} {Y' : Yt} {v1 v2 v3 v4 : Value} {P : Value → MS → Prop} (hd : decode Y.2.1 pc = .ok (.invokespecial index, 3)) (hl : cLLU Y.1.cls index Y' 4) (he : cE G Q S k i = .inr (ci, fs)) (hlm : i < lim Q k) (hcl : vwCl[ci]? = some (C, T, N)) (hC : PC G (CPic G m M0 Q) d1 Y' [.ref (Q.1 k i), v1, v2, v3, v4] S 0 0 (rr P)) (hdd : d1 + 1 ≤ d) (hcat : (st.map fun v => v.category).sum ≤ 8) (kk : ∀ x S', P x S' → PX G (CPic G m M0 Q) d Y (pc + 3) ls (x :: st) S' mc ms Post) : PX G (CPic G m M0 Q) d Y pc ls (v4 :: v3 :: v2 :: v1 :: .ref (Q.1 k i) :: st) S mc ms Post :=
  fun h hp => ax_budget (Nat.le_of_eq (Nat.zero_add mc)) (Nat.le_of_eq (Nat.zero_add ms)) (ax_callU hd hl (hp.1 k i hlm).1 (hp.1 k i hlm).2.1 ((hp.2.2.1 k i hlm).trans he) hcl (av := [v1, v2, v3, v4]) rfl rfl hdd hcat (hC h hp) (fun r h' hq => by obtain ⟨S', hp', x, rfl, hP⟩ := hq; exact kk x S' hP h' hp'))
theorem cx_callI5 {d1 index k i ci N : Nat} {fs : List Value} {T : u_T} {Y' : Yt} {v1 v2 v3 v4 v5 : Value} {P : Int32 → MS → Prop} (hd : decode Y.2.1 pc = .ok (.invokevirtual index, 3)) (hl : cLLV Y.1.cls index Y' 5) (he : cE G Q S k i = .inr (ci, fs)) (hlm : i < lim Q k) (hcl : vwCl[ci]? = some (Y'.1.cls, T, N)) (hC : PC G (CPic G m M0 Q) d1 Y' [.ref (Q.1 k i), v1, v2, v3, v4, v5] S 0 0 (ri P)) (hdd : d1 + 1 ≤ d) (hcat : (st.map fun v => v.category).sum ≤ 8) (kk : ∀ x S', P x S' → PX G (CPic G m M0 Q) d Y (pc + 3) ls (.int x :: st) S' mc ms Post) : PX G (CPic G m M0 Q) d Y pc ls (v5 :: v4 :: v3 :: v2 :: v1 :: .ref (Q.1 k i) :: st) S mc ms Post :=
  fun h hp => ax_budget (Nat.le_of_eq (Nat.zero_add mc)) (Nat.le_of_eq (Nat.zero_add ms)) (ax_callV hd hl (hp.1 k i hlm).1 (hp.1 k i hlm).2.1 ((hp.2.2.1 k i hlm).trans he) hcl (av := [v1, v2, v3, v4, v5]) rfl rfl hdd hcat (hC h hp) (fun r h' hq => by obtain ⟨S', hp', x, rfl, hP⟩ := hq; exact kk x S' hP h' hp'))
theorem cx_callOI5 {d1 index k i ci N : Nat} {fs : List Value} {C : String} {T : u_T} {Y' : Yt} {x : MethodName} {v1 v2 v3 v4 v5 : Value} {P : Int32 → MS → Prop} (hd : decode Y.2.1 pc = .ok (.invokevirtual index, 3)) (hl : cLLO Y.1.cls C index x Y' 5) (he : cE G Q S k i = .inr (ci, fs)) (hlm : i < lim Q k) (hcl : vwCl[ci]? = some (C, T, N)) (hC : PC G (CPic G m M0 Q) d1 Y' [.ref (Q.1 k i), v1, v2, v3, v4, v5] S 0 0 (ri P)) (hdd : d1 + 1 ≤ d) (hcat : (st.map fun v => v.category).sum ≤ 8) (kk : ∀ x S', P x S' → PX G (CPic G m M0 Q) d Y (pc + 3) ls (.int x :: st) S' mc ms Post) : PX G (CPic G m M0 Q) d Y pc ls (v5 :: v4 :: v3 :: v2 :: v1 :: .ref (Q.1 k i) :: st) S mc ms Post :=
  fun h hp => ax_budget (Nat.le_of_eq (Nat.zero_add mc)) (Nat.le_of_eq (Nat.zero_add ms)) (ax_callO hd hl (hp.1 k i hlm).1 (hp.1 k i hlm).2.1 ((hp.2.2.1 k i hlm).trans he) hcl (av := [v1, v2, v3, v4, v5]) rfl rfl hdd hcat (hC h hp) (fun r h' hq => by obtain ⟨S', hp', x, rfl, hP⟩ := hq; exact kk x S' hP h' hp'))
theorem cx_callUI5 {d1 index k i ci N : Nat} {fs : List Value} {C : String} {T : u_T} {Y' : Yt} {v1 v2 v3 v4 v5 : Value} {P : Int32 → MS → Prop} (hd : decode Y.2.1 pc = .ok (.invokespecial index, 3)) (hl : cLLU Y.1.cls index Y' 5) (he : cE G Q S k i = .inr (ci, fs)) (hlm : i < lim Q k) (hcl : vwCl[ci]? = some (C, T, N)) (hC : PC G (CPic G m M0 Q) d1 Y' [.ref (Q.1 k i), v1, v2, v3, v4, v5] S 0 0 (ri P)) (hdd : d1 + 1 ≤ d) (hcat : (st.map fun v => v.category).sum ≤ 8) (kk : ∀ x S', P x S' → PX G (CPic G m M0 Q) d Y (pc + 3) ls (.int x :: st) S' mc ms Post) : PX G (CPic G m M0 Q) d Y pc ls (v5 :: v4 :: v3 :: v2 :: v1 :: .ref (Q.1 k i) :: st) S mc ms Post :=
  fun h hp => ax_budget (Nat.le_of_eq (Nat.zero_add mc)) (Nat.le_of_eq (Nat.zero_add ms)) (ax_callU hd hl (hp.1 k i hlm).1 (hp.1 k i hlm).2.1 ((hp.2.2.1 k i hlm).trans he) hcl (av := [v1, v2, v3, v4, v5]) rfl rfl hdd hcat (hC h hp) (fun r h' hq => by obtain ⟨S', hp', x, rfl, hP⟩ := hq; exact kk x S' hP h' hp'))
theorem cx_callV5 {d1 index k i ci N : Nat} {fs : List Value} {T : u_T} {Y' : Yt} {v1 v2 v3 v4 v5 : Value} {P : MS → Prop} (hd : decode Y.2.1 pc = .ok (.invokevirtual index, 3)) (hl : cLLV Y.1.cls index Y' 5) (he : cE G Q S k i = .inr (ci, fs)) (hlm : i < lim Q k) (hcl : vwCl[ci]? = some (Y'.1.cls, T, N)) (hC : PC G (CPic G m M0 Q) d1 Y' [.ref (Q.1 k i), v1, v2, v3, v4, v5] S 0 0 (rv P)) (hdd : d1 + 1 ≤ d) (hcat : (st.map fun v => v.category).sum ≤ 8) (kk : ∀ S', P S' → PX G (CPic G m M0 Q) d Y (pc + 3) ls st S' mc ms Post) : PX G (CPic G m M0 Q) d Y pc ls (v5 :: v4 :: v3 :: v2 :: v1 :: .ref (Q.1 k i) :: st) S mc ms Post :=
  fun h hp => ax_budget (Nat.le_of_eq (Nat.zero_add mc)) (Nat.le_of_eq (Nat.zero_add ms)) (ax_callV hd hl (hp.1 k i hlm).1 (hp.1 k i hlm).2.1 ((hp.2.2.1 k i hlm).trans he) hcl (av := [v1, v2, v3, v4, v5]) rfl rfl hdd hcat (hC h hp) (fun r h' hq => by obtain ⟨S', hp', rfl, hP⟩ := hq; exact kk S' hP h' hp'))
theorem cx_callOV5 {d1 index k i ci N : Nat} {fs : List Value} {C : String} {T : u_T} {Y' : Yt} {x : MethodName} {v1 v2 v3 v4 v5 : Value} {P : MS → Prop} (hd : decode Y.2.1 pc = .ok (.invokevirtual index, 3)) (hl : cLLO Y.1.cls C index x Y' 5) (he : cE G Q S k i = .inr (ci, fs)) (hlm : i < lim Q k) (hcl : vwCl[ci]? = some (C, T, N)) (hC : PC G (CPic G m M0 Q) d1 Y' [.ref (Q.1 k i), v1, v2, v3, v4, v5] S 0 0 (rv P)) (hdd : d1 + 1 ≤ d) (hcat : (st.map fun v => v.category).sum ≤ 8) (kk : ∀ S', P S' → PX G (CPic G m M0 Q) d Y (pc + 3) ls st S' mc ms Post) : PX G (CPic G m M0 Q) d Y pc ls (v5 :: v4 :: v3 :: v2 :: v1 :: .ref (Q.1 k i) :: st) S mc ms Post :=
  fun h hp => ax_budget (Nat.le_of_eq (Nat.zero_add mc)) (Nat.le_of_eq (Nat.zero_add ms)) (ax_callO hd hl (hp.1 k i hlm).1 (hp.1 k i hlm).2.1 ((hp.2.2.1 k i hlm).trans he) hcl (av := [v1, v2, v3, v4, v5]) rfl rfl hdd hcat (hC h hp) (fun r h' hq => by obtain ⟨S', hp', rfl, hP⟩ := hq; exact kk S' hP h' hp'))
theorem cx_callUV5 {d1 index k i ci N : Nat} {fs : List Value} {C : String} {T : u_T} {Y' : Yt} {v1 v2 v3 v4 v5 : Value} {P : MS → Prop} (hd : decode Y.2.1 pc = .ok (.invokespecial index, 3)) (hl : cLLU Y.1.cls index Y' 5) (he : cE G Q S k i = .inr (ci, fs)) (hlm : i < lim Q k) (hcl : vwCl[ci]? = some (C, T, N)) (hC : PC G (CPic G m M0 Q) d1 Y' [.ref (Q.1 k i), v1, v2, v3, v4, v5] S 0 0 (rv P)) (hdd : d1 + 1 ≤ d) (hcat : (st.map fun v => v.category).sum ≤ 8) (kk : ∀ S', P S' → PX G (CPic G m M0 Q) d Y (pc + 3) ls st S' mc ms Post) : PX G (CPic G m M0 Q) d Y pc ls (v5 :: v4 :: v3 :: v2 :: v1 :: .ref (Q.1 k i) :: st) S mc ms Post :=
  fun h hp => ax_budget (Nat.le_of_eq (Nat.zero_add mc)) (Nat.le_of_eq (Nat.zero_add ms)) (ax_callU hd hl (hp.1 k i hlm).1 (hp.1 k i hlm).2.1 ((hp.2.2.1 k i hlm).trans he) hcl (av := [v1, v2, v3, v4, v5]) rfl rfl hdd hcat (hC h hp) (fun r h' hq => by obtain ⟨S', hp', rfl, hP⟩ := hq; exact kk S' hP h' hp'))
theorem cx_callR5 {d1 index k i ci N : Nat} {fs : List Value} {T : u_T} {Y' : Yt} {v1 v2 v3 v4 v5 : Value} {P : Value → MS → Prop} (hd : decode Y.2.1 pc = .ok (.invokevirtual index, 3)) (hl : cLLV Y.1.cls index Y' 5) (he : cE G Q S k i = .inr (ci, fs)) (hlm : i < lim Q k) (hcl : vwCl[ci]? = some (Y'.1.cls, T, N)) (hC : PC G (CPic G m M0 Q) d1 Y' [.ref (Q.1 k i), v1, v2, v3, v4, v5] S 0 0 (rr P)) (hdd : d1 + 1 ≤ d) (hcat : (st.map fun v => v.category).sum ≤ 8) (kk : ∀ x S', P x S' → PX G (CPic G m M0 Q) d Y (pc + 3) ls (x :: st) S' mc ms Post) : PX G (CPic G m M0 Q) d Y pc ls (v5 :: v4 :: v3 :: v2 :: v1 :: .ref (Q.1 k i) :: st) S mc ms Post :=
  fun h hp => ax_budget (Nat.le_of_eq (Nat.zero_add mc)) (Nat.le_of_eq (Nat.zero_add ms)) (ax_callV hd hl (hp.1 k i hlm).1 (hp.1 k i hlm).2.1 ((hp.2.2.1 k i hlm).trans he) hcl (av := [v1, v2, v3, v4, v5]) rfl rfl hdd hcat (hC h hp) (fun r h' hq => by obtain ⟨S', hp', x, rfl, hP⟩ := hq; exact kk x S' hP h' hp'))
theorem cx_callOR5 {d1 index k i ci N : Nat} {fs : List Value} {C : String} {T : u_T} {Y' : Yt} {x : MethodName} {v1 v2 v3 v4 v5 : Value} {P : Value → MS → Prop} (hd : decode Y.2.1 pc = .ok (.invokevirtual index, 3)) (hl : cLLO Y.1.cls C index x Y' 5) (he : cE G Q S k i = .inr (ci, fs)) (hlm : i < lim Q k) (hcl : vwCl[ci]? = some (C, T, N)) (hC : PC G (CPic G m M0 Q) d1 Y' [.ref (Q.1 k i), v1, v2, v3, v4, v5] S 0 0 (rr P)) (hdd : d1 + 1 ≤ d) (hcat : (st.map fun v => v.category).sum ≤ 8) (kk : ∀ x S', P x S' → PX G (CPic G m M0 Q) d Y (pc + 3) ls (x :: st) S' mc ms Post) : PX G (CPic G m M0 Q) d Y pc ls (v5 :: v4 :: v3 :: v2 :: v1 :: .ref (Q.1 k i) :: st) S mc ms Post :=
  fun h hp => ax_budget (Nat.le_of_eq (Nat.zero_add mc)) (Nat.le_of_eq (Nat.zero_add ms)) (ax_callO hd hl (hp.1 k i hlm).1 (hp.1 k i hlm).2.1 ((hp.2.2.1 k i hlm).trans he) hcl (av := [v1, v2, v3, v4, v5]) rfl rfl hdd hcat (hC h hp) (fun r h' hq => by obtain ⟨S', hp', x, rfl, hP⟩ := hq; exact kk x S' hP h' hp'))
theorem cx_callUR5 {d1 index k i ci N : Nat} {fs : List Value} {C : String} {T : u_T} {Y' : Yt} {v1 v2 v3 v4 v5 : Value} {P : Value → MS → Prop} (hd : decode Y.2.1 pc = .ok (.invokespecial index, 3)) (hl : cLLU Y.1.cls index Y' 5) (he : cE G Q S k i = .inr (ci, fs)) (hlm : i < lim Q k) (hcl : vwCl[ci]? = some (C, T, N)) (hC : PC G (CPic G m M0 Q) d1 Y' [.ref (Q.1 k i), v1, v2, v3, v4, v5] S 0 0 (rr P)) (hdd : d1 + 1 ≤ d) (hcat : (st.map fun v => v.category).sum ≤ 8) (kk : ∀ x S', P x S' → PX G (CPic G m M0 Q) d Y (pc + 3) ls (x :: st) S' mc ms Post) : PX G (CPic G m M0 Q) d Y pc ls (v5 :: v4 :: v3 :: v2 :: v1 :: .ref (Q.1 k i) :: st) S mc ms Post :=
  fun h hp => ax_budget (Nat.le_of_eq (Nat.zero_add mc)) (Nat.le_of_eq (Nat.zero_add ms)) (ax_callU hd hl (hp.1 k i hlm).1 (hp.1 k i hlm).2.1 ((hp.2.2.1 k i hlm).trans he) hcl (av := [v1, v2, v3, v4, v5]) rfl rfl hdd hcat (hC h hp) (fun r h' hq => by obtain ⟨S', hp', x, rfl, hP⟩ := hq; exact kk x S' hP h' hp'))
theorem cx_callI6 {d1 index k i ci N : Nat} {fs : List Value} {T : u_T} {Y' : Yt} {v1 v2 v3 v4 v5 v6 : Value} {P : Int32 → MS → Prop} (hd : decode Y.2.1 pc = .ok (.invokevirtual index, 3)) (hl : cLLV Y.1.cls index Y' 6) (he : cE G Q S k i = .inr (ci, fs)) (hlm : i < lim Q k) (hcl : vwCl[ci]? = some (Y'.1.cls, T, N)) (hC : PC G (CPic G m M0 Q) d1 Y' [.ref (Q.1 k i), v1, v2, v3, v4, v5, v6] S 0 0 (ri P)) (hdd : d1 + 1 ≤ d) (hcat : (st.map fun v => v.category).sum ≤ 8) (kk : ∀ x S', P x S' → PX G (CPic G m M0 Q) d Y (pc + 3) ls (.int x :: st) S' mc ms Post) : PX G (CPic G m M0 Q) d Y pc ls (v6 :: v5 :: v4 :: v3 :: v2 :: v1 :: .ref (Q.1 k i) :: st) S mc ms Post :=
  fun h hp => ax_budget (Nat.le_of_eq (Nat.zero_add mc)) (Nat.le_of_eq (Nat.zero_add ms)) (ax_callV hd hl (hp.1 k i hlm).1 (hp.1 k i hlm).2.1 ((hp.2.2.1 k i hlm).trans he) hcl (av := [v1, v2, v3, v4, v5, v6]) rfl rfl hdd hcat (hC h hp) (fun r h' hq => by obtain ⟨S', hp', x, rfl, hP⟩ := hq; exact kk x S' hP h' hp'))
theorem cx_callOI6 {d1 index k i ci N : Nat} {fs : List Value} {C : String} {T : u_T} {Y' : Yt} {x : MethodName} {v1 v2 v3 v4 v5 v6 : Value} {P : Int32 → MS → Prop} (hd : decode Y.2.1 pc = .ok (.invokevirtual index, 3)) (hl : cLLO Y.1.cls C index x Y' 6) (he : cE G Q S k i = .inr (ci, fs)) (hlm : i < lim Q k) (hcl : vwCl[ci]? = some (C, T, N)) (hC : PC G (CPic G m M0 Q) d1 Y' [.ref (Q.1 k i), v1, v2, v3, v4, v5, v6] S 0 0 (ri P)) (hdd : d1 + 1 ≤ d) (hcat : (st.map fun v => v.category).sum ≤ 8) (kk : ∀ x S', P x S' → PX G (CPic G m M0 Q) d Y (pc + 3) ls (.int x :: st) S' mc ms Post) : PX G (CPic G m M0 Q) d Y pc ls (v6 :: v5 :: v4 :: v3 :: v2 :: v1 :: .ref (Q.1 k i) :: st) S mc ms Post :=
  fun h hp => ax_budget (Nat.le_of_eq (Nat.zero_add mc)) (Nat.le_of_eq (Nat.zero_add ms)) (ax_callO hd hl (hp.1 k i hlm).1 (hp.1 k i hlm).2.1 ((hp.2.2.1 k i hlm).trans he) hcl (av := [v1, v2, v3, v4, v5, v6]) rfl rfl hdd hcat (hC h hp) (fun r h' hq => by obtain ⟨S', hp', x, rfl, hP⟩ := hq; exact kk x S' hP h' hp'))
theorem cx_callUI6 {d1 index k i ci N : Nat} {fs : List Value} {C : String} {T : u_T} {Y' : Yt} {v1 v2 v3 v4 v5 v6 : Value} {P : Int32 → MS → Prop} (hd : decode Y.2.1 pc = .ok (.invokespecial index, 3)) (hl : cLLU Y.1.cls index Y' 6) (he : cE G Q S k i = .inr (ci, fs)) (hlm : i < lim Q k) (hcl : vwCl[ci]? = some (C, T, N)) (hC : PC G (CPic G m M0 Q) d1 Y' [.ref (Q.1 k i), v1, v2, v3, v4, v5, v6] S 0 0 (ri P)) (hdd : d1 + 1 ≤ d) (hcat : (st.map fun v => v.category).sum ≤ 8) (kk : ∀ x S', P x S' → PX G (CPic G m M0 Q) d Y (pc + 3) ls (.int x :: st) S' mc ms Post) : PX G (CPic G m M0 Q) d Y pc ls (v6 :: v5 :: v4 :: v3 :: v2 :: v1 :: .ref (Q.1 k i) :: st) S mc ms Post :=
  fun h hp => ax_budget (Nat.le_of_eq (Nat.zero_add mc)) (Nat.le_of_eq (Nat.zero_add ms)) (ax_callU hd hl (hp.1 k i hlm).1 (hp.1 k i hlm).2.1 ((hp.2.2.1 k i hlm).trans he) hcl (av := [v1, v2, v3, v4, v5, v6]) rfl rfl hdd hcat (hC h hp) (fun r h' hq => by obtain ⟨S', hp', x, rfl, hP⟩ := hq; exact kk x S' hP h' hp'))
theorem cx_callV6 {d1 index k i ci N : Nat} {fs : List Value} {T : u_T} {Y' : Yt} {v1 v2 v3 v4 v5 v6 : Value} {P : MS → Prop} (hd : decode Y.2.1 pc = .ok (.invokevirtual index, 3)) (hl : cLLV Y.1.cls index Y' 6) (he : cE G Q S k i = .inr (ci, fs)) (hlm : i < lim Q k) (hcl : vwCl[ci]? = some (Y'.1.cls, T, N)) (hC : PC G (CPic G m M0 Q) d1 Y' [.ref (Q.1 k i), v1, v2, v3, v4, v5, v6] S 0 0 (rv P)) (hdd : d1 + 1 ≤ d) (hcat : (st.map fun v => v.category).sum ≤ 8) (kk : ∀ S', P S' → PX G (CPic G m M0 Q) d Y (pc + 3) ls st S' mc ms Post) : PX G (CPic G m M0 Q) d Y pc ls (v6 :: v5 :: v4 :: v3 :: v2 :: v1 :: .ref (Q.1 k i) :: st) S mc ms Post :=
  fun h hp => ax_budget (Nat.le_of_eq (Nat.zero_add mc)) (Nat.le_of_eq (Nat.zero_add ms)) (ax_callV hd hl (hp.1 k i hlm).1 (hp.1 k i hlm).2.1 ((hp.2.2.1 k i hlm).trans he) hcl (av := [v1, v2, v3, v4, v5, v6]) rfl rfl hdd hcat (hC h hp) (fun r h' hq => by obtain ⟨S', hp', rfl, hP⟩ := hq; exact kk S' hP h' hp'))
theorem cx_callOV6 {d1 index k i ci N : Nat} {fs : List Value} {C : String} {T : u_T} {Y' : Yt} {x : MethodName} {v1 v2 v3 v4 v5 v6 : Value} {P : MS → Prop} (hd : decode Y.2.1 pc = .ok (.invokevirtual index, 3)) (hl : cLLO Y.1.cls C index x Y' 6) (he : cE G Q S k i = .inr (ci, fs)) (hlm : i < lim Q k) (hcl : vwCl[ci]? = some (C, T, N)) (hC : PC G (CPic G m M0 Q) d1 Y' [.ref (Q.1 k i), v1, v2, v3, v4, v5, v6] S 0 0 (rv P)) (hdd : d1 + 1 ≤ d) (hcat : (st.map fun v => v.category).sum ≤ 8) (kk : ∀ S', P S' → PX G (CPic G m M0 Q) d Y (pc + 3) ls st S' mc ms Post) : PX G (CPic G m M0 Q) d Y pc ls (v6 :: v5 :: v4 :: v3 :: v2 :: v1 :: .ref (Q.1 k i) :: st) S mc ms Post :=
  fun h hp => ax_budget (Nat.le_of_eq (Nat.zero_add mc)) (Nat.le_of_eq (Nat.zero_add ms)) (ax_callO hd hl (hp.1 k i hlm).1 (hp.1 k i hlm).2.1 ((hp.2.2.1 k i hlm).trans he) hcl (av := [v1, v2, v3, v4, v5, v6]) rfl rfl hdd hcat (hC h hp) (fun r h' hq => by obtain ⟨S', hp', rfl, hP⟩ := hq; exact kk S' hP h' hp'))
theorem cx_callUV6 {d1 index k i ci N : Nat} {fs : List Value} {C : String} {T : u_T} {Y' : Yt} {v1 v2 v3 v4 v5 v6 : Value} {P : MS → Prop} (hd : decode Y.2.1 pc = .ok (.invokespecial index, 3)) (hl : cLLU Y.1.cls index Y' 6) (he : cE G Q S k i = .inr (ci, fs)) (hlm : i < lim Q k) (hcl : vwCl[ci]? = some (C, T, N)) (hC : PC G (CPic G m M0 Q) d1 Y' [.ref (Q.1 k i), v1, v2, v3, v4, v5, v6] S 0 0 (rv P)) (hdd : d1 + 1 ≤ d) (hcat : (st.map fun v => v.category).sum ≤ 8) (kk : ∀ S', P S' → PX G (CPic G m M0 Q) d Y (pc + 3) ls st S' mc ms Post) : PX G (CPic G m M0 Q) d Y pc ls (v6 :: v5 :: v4 :: v3 :: v2 :: v1 :: .ref (Q.1 k i) :: st) S mc ms Post :=
  fun h hp => ax_budget (Nat.le_of_eq (Nat.zero_add mc)) (Nat.le_of_eq (Nat.zero_add ms)) (ax_callU hd hl (hp.1 k i hlm).1 (hp.1 k i hlm).2.1 ((hp.2.2.1 k i hlm).trans he) hcl (av := [v1, v2, v3, v4, v5, v6]) rfl rfl hdd hcat (hC h hp) (fun r h' hq => by obtain ⟨S', hp', rfl, hP⟩ := hq; exact kk S' hP h' hp'))
theorem cx_callR6 {d1 index k i ci N : Nat} {fs : List Value} {T : u_T} {Y' : Yt} {v1 v2 v3 v4 v5 v6 : Value} {P : Value → MS → Prop} (hd : decode Y.2.1 pc = .ok (.invokevirtual index, 3)) (hl : cLLV Y.1.cls index Y' 6) (he : cE G Q S k i = .inr (ci, fs)) (hlm : i < lim Q k) (hcl : vwCl[ci]? = some (Y'.1.cls, T, N)) (hC : PC G (CPic G m M0 Q) d1 Y' [.ref (Q.1 k i), v1, v2, v3, v4, v5, v6] S 0 0 (rr P)) (hdd : d1 + 1 ≤ d) (hcat : (st.map fun v => v.category).sum ≤ 8) (kk : ∀ x S', P x S' → PX G (CPic G m M0 Q) d Y (pc + 3) ls (x :: st) S' mc ms Post) : PX G (CPic G m M0 Q) d Y pc ls (v6 :: v5 :: v4 :: v3 :: v2 :: v1 :: .ref (Q.1 k i) :: st) S mc ms Post :=
  fun h hp => ax_budget (Nat.le_of_eq (Nat.zero_add mc)) (Nat.le_of_eq (Nat.zero_add ms)) (ax_callV hd hl (hp.1 k i hlm).1 (hp.1 k i hlm).2.1 ((hp.2.2.1 k i hlm).trans he) hcl (av := [v1, v2, v3, v4, v5, v6]) rfl rfl hdd hcat (hC h hp) (fun r h' hq => by obtain ⟨S', hp', x, rfl, hP⟩ := hq; exact kk x S' hP h' hp'))
theorem cx_callOR6 {d1 index k i ci N : Nat} {fs : List Value} {C : String} {T : u_T} {Y' : Yt} {x : MethodName} {v1 v2 v3 v4 v5 v6 : Value} {P : Value → MS → Prop} (hd : decode Y.2.1 pc = .ok (.invokevirtual index, 3)) (hl : cLLO Y.1.cls C index x Y' 6) (he : cE G Q S k i = .inr (ci, fs)) (hlm : i < lim Q k) (hcl : vwCl[ci]? = some (C, T, N)) (hC : PC G (CPic G m M0 Q) d1 Y' [.ref (Q.1 k i), v1, v2, v3, v4, v5, v6] S 0 0 (rr P)) (hdd : d1 + 1 ≤ d) (hcat : (st.map fun v => v.category).sum ≤ 8) (kk : ∀ x S', P x S' → PX G (CPic G m M0 Q) d Y (pc + 3) ls (x :: st) S' mc ms Post) : PX G (CPic G m M0 Q) d Y pc ls (v6 :: v5 :: v4 :: v3 :: v2 :: v1 :: .ref (Q.1 k i) :: st) S mc ms Post :=
  fun h hp => ax_budget (Nat.le_of_eq (Nat.zero_add mc)) (Nat.le_of_eq (Nat.zero_add ms)) (ax_callO hd hl (hp.1 k i hlm).1 (hp.1 k i hlm).2.1 ((hp.2.2.1 k i hlm).trans he) hcl (av := [v1, v2, v3, v4, v5, v6]) rfl rfl hdd hcat (hC h hp) (fun r h' hq => by obtain ⟨S', hp', x, rfl, hP⟩ := hq; exact kk x S' hP h' hp'))
theorem cx_callUR6 {d1 index k i ci N : Nat} {fs : List Value} {C : String} {T : u_T} {Y' : Yt} {v1 v2 v3 v4 v5 v6 : Value} {P : Value → MS → Prop} (hd : decode Y.2.1 pc = .ok (.invokespecial index, 3)) (hl : cLLU Y.1.cls index Y' 6) (he : cE G Q S k i = .inr (ci, fs)) (hlm : i < lim Q k) (hcl : vwCl[ci]? = some (C, T, N)) (hC : PC G (CPic G m M0 Q) d1 Y' [.ref (Q.1 k i), v1, v2, v3, v4, v5, v6] S 0 0 (rr P)) (hdd : d1 + 1 ≤ d) (hcat : (st.map fun v => v.category).sum ≤ 8) (kk : ∀ x S', P x S' → PX G (CPic G m M0 Q) d Y (pc + 3) ls (x :: st) S' mc ms Post) : PX G (CPic G m M0 Q) d Y pc ls (v6 :: v5 :: v4 :: v3 :: v2 :: v1 :: .ref (Q.1 k i) :: st) S mc ms Post :=
  fun h hp => ax_budget (Nat.le_of_eq (Nat.zero_add mc)) (Nat.le_of_eq (Nat.zero_add ms)) (ax_callU hd hl (hp.1 k i hlm).1 (hp.1 k i hlm).2.1 ((hp.2.2.1 k i hlm).trans he) hcl (av := [v1, v2, v3, v4, v5, v6]) rfl rfl hdd hcat (hC h hp) (fun r h' hq => by obtain ⟨S', hp', x, rfl, hP⟩ := hq; exact kk x S' hP h' hp'))
theorem cx_callI7 {d1 index k i ci N : Nat} {fs : List Value} {T : u_T} {Y' : Yt} {v1 v2 v3 v4 v5 v6 v7 : Value} {P : Int32 → MS → Prop} (hd : decode Y.2.1 pc = .ok (.invokevirtual index, 3)) (hl : cLLV Y.1.cls index Y' 7) (he : cE G Q S k i = .inr (ci, fs)) (hlm : i < lim Q k) (hcl : vwCl[ci]? = some (Y'.1.cls, T, N)) (hC : PC G (CPic G m M0 Q) d1 Y' [.ref (Q.1 k i), v1, v2, v3, v4, v5, v6, v7] S 0 0 (ri P)) (hdd : d1 + 1 ≤ d) (hcat : (st.map fun v => v.category).sum ≤ 8) (kk : ∀ x S', P x S' → PX G (CPic G m M0 Q) d Y (pc + 3) ls (.int x :: st) S' mc ms Post) : PX G (CPic G m M0 Q) d Y pc ls (v7 :: v6 :: v5 :: v4 :: v3 :: v2 :: v1 :: .ref (Q.1 k i) :: st) S mc ms Post :=
  fun h hp => ax_budget (Nat.le_of_eq (Nat.zero_add mc)) (Nat.le_of_eq (Nat.zero_add ms)) (ax_callV hd hl (hp.1 k i hlm).1 (hp.1 k i hlm).2.1 ((hp.2.2.1 k i hlm).trans he) hcl (av := [v1, v2, v3, v4, v5, v6, v7]) rfl rfl hdd hcat (hC h hp) (fun r h' hq => by obtain ⟨S', hp', x, rfl, hP⟩ := hq; exact kk x S' hP h' hp'))
theorem cx_callOI7 {d1 index k i ci N : Nat} {fs : List Value} {C : String} {T : u_T} {Y' : Yt} {x : MethodName} {v1 v2 v3 v4 v5 v6 v7 : Value} {P : Int32 → MS → Prop} (hd : decode Y.2.1 pc = .ok (.invokevirtual index, 3)) (hl : cLLO Y.1.cls C index x Y' 7) (he : cE G Q S k i = .inr (ci, fs)) (hlm : i < lim Q k) (hcl : vwCl[ci]? = some (C, T, N)) (hC : PC G (CPic G m M0 Q) d1 Y' [.ref (Q.1 k i), v1, v2, v3, v4, v5, v6, v7] S 0 0 (ri P)) (hdd : d1 + 1 ≤ d) (hcat : (st.map fun v => v.category).sum ≤ 8) (kk : ∀ x S', P x S' → PX G (CPic G m M0 Q) d Y (pc + 3) ls (.int x :: st) S' mc ms Post) : PX G (CPic G m M0 Q) d Y pc ls (v7 :: v6 :: v5 :: v4 :: v3 :: v2 :: v1 :: .ref (Q.1 k i) :: st) S mc ms Post :=
  fun h hp => ax_budget (Nat.le_of_eq (Nat.zero_add mc)) (Nat.le_of_eq (Nat.zero_add ms)) (ax_callO hd hl (hp.1 k i hlm).1 (hp.1 k i hlm).2.1 ((hp.2.2.1 k i hlm).trans he) hcl (av := [v1, v2, v3, v4, v5, v6, v7]) rfl rfl hdd hcat (hC h hp) (fun r h' hq => by obtain ⟨S', hp', x, rfl, hP⟩ := hq; exact kk x S' hP h' hp'))
theorem cx_callUI7 {d1 index k i ci N : Nat} {fs : List Value} {C : String} {T : u_T} {Y' : Yt} {v1 v2 v3 v4 v5 v6 v7 : Value} {P : Int32 → MS → Prop} (hd : decode Y.2.1 pc = .ok (.invokespecial index, 3)) (hl : cLLU Y.1.cls index Y' 7) (he : cE G Q S k i = .inr (ci, fs)) (hlm : i < lim Q k) (hcl : vwCl[ci]? = some (C, T, N)) (hC : PC G (CPic G m M0 Q) d1 Y' [.ref (Q.1 k i), v1, v2, v3, v4, v5, v6, v7] S 0 0 (ri P)) (hdd : d1 + 1 ≤ d) (hcat : (st.map fun v => v.category).sum ≤ 8) (kk : ∀ x S', P x S' → PX G (CPic G m M0 Q) d Y (pc + 3) ls (.int x :: st) S' mc ms Post) : PX G (CPic G m M0 Q) d Y pc ls (v7 :: v6 :: v5 :: v4 :: v3 :: v2 :: v1 :: .ref (Q.1 k i) :: st) S mc ms Post :=
  fun h hp => ax_budget (Nat.le_of_eq (Nat.zero_add mc)) (Nat.le_of_eq (Nat.zero_add ms)) (ax_callU hd hl (hp.1 k i hlm).1 (hp.1 k i hlm).2.1 ((hp.2.2.1 k i hlm).trans he) hcl (av := [v1, v2, v3, v4, v5, v6, v7]) rfl rfl hdd hcat (hC h hp) (fun r h' hq => by obtain ⟨S', hp', x, rfl, hP⟩ := hq; exact kk x S' hP h' hp'))
theorem cx_callV7 {d1 index k i ci N : Nat} {fs : List Value} {T : u_T} {Y' : Yt} {v1 v2 v3 v4 v5 v6 v7 : Value} {P : MS → Prop} (hd : decode Y.2.1 pc = .ok (.invokevirtual index, 3)) (hl : cLLV Y.1.cls index Y' 7) (he : cE G Q S k i = .inr (ci, fs)) (hlm : i < lim Q k) (hcl : vwCl[ci]? = some (Y'.1.cls, T, N)) (hC : PC G (CPic G m M0 Q) d1 Y' [.ref (Q.1 k i), v1, v2, v3, v4, v5, v6, v7] S 0 0 (rv P)) (hdd : d1 + 1 ≤ d) (hcat : (st.map fun v => v.category).sum ≤ 8) (kk : ∀ S', P S' → PX G (CPic G m M0 Q) d Y (pc + 3) ls st S' mc ms Post) : PX G (CPic G m M0 Q) d Y pc ls (v7 :: v6 :: v5 :: v4 :: v3 :: v2 :: v1 :: .ref (Q.1 k i) :: st) S mc ms Post :=
  fun h hp => ax_budget (Nat.le_of_eq (Nat.zero_add mc)) (Nat.le_of_eq (Nat.zero_add ms)) (ax_callV hd hl (hp.1 k i hlm).1 (hp.1 k i hlm).2.1 ((hp.2.2.1 k i hlm).trans he) hcl (av := [v1, v2, v3, v4, v5, v6, v7]) rfl rfl hdd hcat (hC h hp) (fun r h' hq => by obtain ⟨S', hp', rfl, hP⟩ := hq; exact kk S' hP h' hp'))
theorem cx_callOV7 {d1 index k i ci N : Nat} {fs : List Value} {C : String} {T : u_T} {Y' : Yt} {x : MethodName} {v1 v2 v3 v4 v5 v6 v7 : Value} {P : MS → Prop} (hd : decode Y.2.1 pc = .ok (.invokevirtual index, 3)) (hl : cLLO Y.1.cls C index x Y' 7) (he : cE G Q S k i = .inr (ci, fs)) (hlm : i < lim Q k) (hcl : vwCl[ci]? = some (C, T, N)) (hC : PC G (CPic G m M0 Q) d1 Y' [.ref (Q.1 k i), v1, v2, v3, v4, v5, v6, v7] S 0 0 (rv P)) (hdd : d1 + 1 ≤ d) (hcat : (st.map fun v => v.category).sum ≤ 8) (kk : ∀ S', P S' → PX G (CPic G m M0 Q) d Y (pc + 3) ls st S' mc ms Post) : PX G (CPic G m M0 Q) d Y pc ls (v7 :: v6 :: v5 :: v4 :: v3 :: v2 :: v1 :: .ref (Q.1 k i) :: st) S mc ms Post :=
  fun h hp => ax_budget (Nat.le_of_eq (Nat.zero_add mc)) (Nat.le_of_eq (Nat.zero_add ms)) (ax_callO hd hl (hp.1 k i hlm).1 (hp.1 k i hlm).2.1 ((hp.2.2.1 k i hlm).trans he) hcl (av := [v1, v2, v3, v4, v5, v6, v7]) rfl rfl hdd hcat (hC h hp) (fun r h' hq => by obtain ⟨S', hp', rfl, hP⟩ := hq; exact kk S' hP h' hp'))
theorem cx_callUV7 {d1 index k i ci N : Nat} {fs : List Value} {C : String} {T : u_T} {Y' : Yt} {v1 v2 v3 v4 v5 v6 v7 : Value} {P : MS → Prop} (hd : decode Y.2.1 pc = .ok (.invokespecial index, 3)) (hl : cLLU Y.1.cls index Y' 7) (he : cE G Q S k i = .inr (ci, fs)) (hlm : i < lim Q k) (hcl : vwCl[ci]? = some (C, T, N)) (hC : PC G (CPic G m M0 Q) d1 Y' [.ref (Q.1 k i), v1, v2, v3, v4, v5, v6, v7] S 0 0 (rv P)) (hdd : d1 + 1 ≤ d) (hcat : (st.map fun v => v.category).sum ≤ 8) (kk : ∀ S', P S' → PX G (CPic G m M0 Q) d Y (pc + 3) ls st S' mc ms Post) : PX G (CPic G m M0 Q) d Y pc ls (v7 :: v6 :: v5 :: v4 :: v3 :: v2 :: v1 :: .ref (Q.1 k i) :: st) S mc ms Post :=
  fun h hp => ax_budget (Nat.le_of_eq (Nat.zero_add mc)) (Nat.le_of_eq (Nat.zero_add ms)) (ax_callU hd hl (hp.1 k i hlm).1 (hp.1 k i hlm).2.1 ((hp.2.2.1 k i hlm).trans he) hcl (av := [v1, v2, v3, v4, v5, v6, v7]) rfl rfl hdd hcat (hC h hp) (fun r h' hq => by obtain ⟨S', hp', rfl, hP⟩ := hq; exact kk S' hP h' hp'))
theorem cx_callR7 {d1 index k i ci N : Nat} {fs : List Value} {T : u_T} {Y' : Yt} {v1 v2 v3 v4 v5 v6 v7 : Value} {P : Value → MS → Prop} (hd : decode Y.2.1 pc = .ok (.invokevirtual index, 3)) (hl : cLLV Y.1.cls index Y' 7) (he : cE G Q S k i = .inr (ci, fs)) (hlm : i < lim Q k) (hcl : vwCl[ci]? = some (Y'.1.cls, T, N)) (hC : PC G (CPic G m M0 Q) d1 Y' [.ref (Q.1 k i), v1, v2, v3, v4, v5, v6, v7] S 0 0 (rr P)) (hdd : d1 + 1 ≤ d) (hcat : (st.map fun v => v.category).sum ≤ 8) (kk : ∀ x S', P x S' → PX G (CPic G m M0 Q) d Y (pc + 3) ls (x :: st) S' mc ms Post) : PX G (CPic G m M0 Q) d Y pc ls (v7 :: v6 :: v5 :: v4 :: v3 :: v2 :: v1 :: .ref (Q.1 k i) :: st) S mc ms Post :=
  fun h hp => ax_budget (Nat.le_of_eq (Nat.zero_add mc)) (Nat.le_of_eq (Nat.zero_add ms)) (ax_callV hd hl (hp.1 k i hlm).1 (hp.1 k i hlm).2.1 ((hp.2.2.1 k i hlm).trans he) hcl (av := [v1, v2, v3, v4, v5, v6, v7]) rfl rfl hdd hcat (hC h hp) (fun r h' hq => by obtain ⟨S', hp', x, rfl, hP⟩ := hq; exact kk x S' hP h' hp'))
theorem cx_callOR7 {d1 index k i ci N : Nat} {fs : List Value} {C : String} {T : u_T} {Y' : Yt} {x : MethodName} {v1 v2 v3 v4 v5 v6 v7 : Value} {P : Value → MS → Prop} (hd : decode Y.2.1 pc = .ok (.invokevirtual index, 3)) (hl : cLLO Y.1.cls C index x Y' 7) (he : cE G Q S k i = .inr (ci, fs)) (hlm : i < lim Q k) (hcl : vwCl[ci]? = some (C, T, N)) (hC : PC G (CPic G m M0 Q) d1 Y' [.ref (Q.1 k i), v1, v2, v3, v4, v5, v6, v7] S 0 0 (rr P)) (hdd : d1 + 1 ≤ d) (hcat : (st.map fun v => v.category).sum ≤ 8) (kk : ∀ x S', P x S' → PX G (CPic G m M0 Q) d Y (pc + 3) ls (x :: st) S' mc ms Post) : PX G (CPic G m M0 Q) d Y pc ls (v7 :: v6 :: v5 :: v4 :: v3 :: v2 :: v1 :: .ref (Q.1 k i) :: st) S mc ms Post :=
  fun h hp => ax_budget (Nat.le_of_eq (Nat.zero_add mc)) (Nat.le_of_eq (Nat.zero_add ms)) (ax_callO hd hl (hp.1 k i hlm).1 (hp.1 k i hlm).2.1 ((hp.2.2.1 k i hlm).trans he) hcl (av := [v1, v2, v3, v4, v5, v6, v7]) rfl rfl hdd hcat (hC h hp) (fun r h' hq => by obtain ⟨S', hp', x, rfl, hP⟩ := hq; exact kk x S' hP h' hp'))
theorem cx_callUR7 {d1 index k i ci N : Nat} {fs : List Value} {C : String} {T : u_T} {Y' : Yt} {v1 v2 v3 v4 v5 v6 v7 : Value} {P : Value → MS → Prop} (hd : decode Y.2.1 pc = .ok (.invokespecial index, 3)) (hl : cLLU Y.1.cls index Y' 7) (he : cE G Q S k i = .inr (ci, fs)) (hlm : i < lim Q k) (hcl : vwCl[ci]? = some (C, T, N)) (hC : PC G (CPic G m M0 Q) d1 Y' [.ref (Q.1 k i), v1, v2, v3, v4, v5, v6, v7] S 0 0 (rr P)) (hdd : d1 + 1 ≤ d) (hcat : (st.map fun v => v.category).sum ≤ 8) (kk : ∀ x S', P x S' → PX G (CPic G m M0 Q) d Y (pc + 3) ls (x :: st) S' mc ms Post) : PX G (CPic G m M0 Q) d Y pc ls (v7 :: v6 :: v5 :: v4 :: v3 :: v2 :: v1 :: .ref (Q.1 k i) :: st) S mc ms Post :=
  fun h hp => ax_budget (Nat.le_of_eq (Nat.zero_add mc)) (Nat.le_of_eq (Nat.zero_add ms)) (ax_callU hd hl (hp.1 k i hlm).1 (hp.1 k i hlm).2.1 ((hp.2.2.1 k i hlm).trans he) hcl (av := [v1, v2, v3, v4, v5, v6, v7]) rfl rfl hdd hcat (hC h hp) (fun r h' hq => by obtain ⟨S', hp', x, rfl, hP⟩ := hq; exact kk x S' hP h' hp'))
end CXr
