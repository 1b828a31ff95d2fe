/-! THE REFERENCE: small methods -/
def mIn (v lo hi : Int32) : Int32 := if v < lo then 0 else if hi < v then 0 else 1
theorem mIn_0 {v lo hi : Int32} : mIn v lo hi = 0 ↔ (v < lo ∨ hi < v) := by
  unfold mIn
  by_cases h1 : v < lo
  · simp [h1]
  · by_cases h2 : hi < v
    · simp [h1, h2]
    · simp [h1, h2]
theorem mIn_1 {v lo hi : Int32} : ¬ mIn v lo hi = 0 ↔ (¬ v < lo ∧ ¬ hi < v) := by
  rw [mIn_0]
  constructor
  · intro h; exact ⟨fun q => h (Or.inl q), fun q => h (Or.inr q)⟩
  · rintro ⟨a, b⟩ (h | h)
    · exact a h
    · exact b h
theorem narZ {x : Int32} (h : x = 0 ∨ x = 1) : narrow .boolean (.int x) = .int x := by
  rcases h with rfl | rfl <;> rfl
theorem mIn_01 (v lo hi : Int32) : mIn v lo hi = 0 ∨ mIn v lo hi = 1 := by
  unfold mIn
  split
  · exact Or.inl rfl
  · split
    · exact Or.inl rfl
    · exact Or.inr rfl
def mHeld (v most : Int32) : Int32 := if v < 0 then 0 else if most < v then most else v
def mOne (m : Int32) : Int32 := if m < 2 then 0 else if m = 2 then 1 else if m = 5 then 3 else 2
def mOther (m : Int32) : Int32 := if m = 0 then 1 else if m < 3 then 2 else if m = 3 then 3 else 4
def mUnder (k above : Int32) : Int32 := if above = 0 then 1 else if k = above then 1 else if above = 1 ∧ k = 4 then 1 else if above = 2 ∧ k = 5 then 1 else 0
def mTwo (w a b : Int32) : Int32 := if w = 5 then (if a ≠ 0 ∨ b ≠ 0 then 1 else 0) else if w = 6 then (if a ≠ 0 ∧ b ≠ 0 then 1 else 0) else if w = 43 then a + b else if w = 45 then a - b else if w = 60 then (if a < b then 1 else 0) else if w = 61 then (if a = b then 1 else 0) else a * b
theorem lk_two {w : Int32} (h1 : ¬ w = 5) (h2 : ¬ w = 6) (h3 : ¬ w = 43) (h4 : ¬ w = 45) (h5 : ¬ w = 60) (h6 : ¬ w = 61) : Op.lookupswitch.offset #[((5 : Int), (59 : Int)), (6, 73), (43, 109), (45, 113), (60, 87), (61, 98)].toList 117 w.toInt = 117 := by
  rw [i_eq] at h1 h2 h3 h4 h5 h6
  have e1 : (5 : Int32).toInt = 5 := by decide
  have e2 : (6 : Int32).toInt = 6 := by decide
  have e3 : (43 : Int32).toInt = 43 := by decide
  have e4 : (45 : Int32).toInt = 45 := by decide
  have e5 : (60 : Int32).toInt = 60 := by decide
  have e6 : (61 : Int32).toInt = 61 := by decide
  rw [e1] at h1; rw [e2] at h2; rw [e3] at h3; rw [e4] at h4; rw [e5] at h5; rw [e6] at h6
  simp [Op.lookupswitch.offset]
  omega
set_option maxHeartbeats 4000000 in
set_option maxRecDepth 100000 in
theorem c_X12_in (G : Gt) (v lo hi : Int32) : PS G 1 Y12_in [.int v, .int lo, .int hi] (mIn v lo hi) := by
  refine ps_ofp (ls := [some (.int v), some (.int lo), some (.int hi)]) (by decide +kernel) rfl (Nat.le_of_ble_eq_true rfl) (fun h => ?_)
  refine px_iload_n dX12_in_0 rfl rfl ?_
  refine px_iload_n dX12_in_1 rfl rfl ?_
  refine px_icmp_lt (tgt := 14) dX12_in_2 (by decide) (fun H2 => ?_) (fun H2 => ?_)
  · skip
    refine px_iconst (v := 0) dX12_in_14 (by decide) ?_
    refine px_iretZ dX12_in_15 rfl (by first | rfl | decide) ?_
    exact ⟨by first | (simp [mIn, *]; done) | (simp_all [mIn]; done), rfl⟩
  · skip
    refine px_iload_n dX12_in_5 rfl rfl ?_
    refine px_iload_n dX12_in_6 rfl rfl ?_
    refine px_icmp_gt (tgt := 14) dX12_in_7 (by decide) (fun H7 => ?_) (fun H7 => ?_)
    · skip
      refine px_iconst (v := 0) dX12_in_14 (by decide) ?_
      refine px_iretZ dX12_in_15 rfl (by first | rfl | decide) ?_
      exact ⟨by first | (simp [mIn, *]; done) | (simp_all [mIn]; done), rfl⟩
    · skip
      refine px_iconst (v := 1) dX12_in_10 (by decide) ?_
      refine px_goto (tgt := 15) dX12_in_11 (by decide) ?_
      refine px_iretZ dX12_in_15 rfl (by first | rfl | decide) ?_
      exact ⟨by first | (simp [mIn, *]; done) | (simp_all [mIn]; done), rfl⟩
set_option maxHeartbeats 4000000 in
set_option maxRecDepth 100000 in
theorem c_X12_held (G : Gt) (v most : Int32) : PS G 1 Y12_held [.int v, .int most] (mHeld v most) := by
  refine ps_ofp (ls := [some (.int v), some (.int most)]) (by decide +kernel) rfl (Nat.le_of_ble_eq_true rfl) (fun h => ?_)
  refine px_iload_n dX12_held_0 rfl rfl ?_
  refine px_if_ge (tgt := 8) dX12_held_1 (by decide) (fun H1 => ?_) (fun H1 => ?_)
  · skip
    refine px_iload_n dX12_held_8 rfl rfl ?_
    refine px_iload_n dX12_held_9 rfl rfl ?_
    refine px_icmp_le (tgt := 17) dX12_held_10 (by decide) (fun H10 => ?_) (fun H10 => ?_)
    · skip
      refine px_iload_n dX12_held_17 rfl rfl ?_
      refine px_iretI dX12_held_18 rfl ?_
      exact ⟨by first | (simp [mHeld, *]; done) | (simp_all [mHeld]; done), rfl⟩
    · skip
      refine px_iload_n dX12_held_13 rfl rfl ?_
      refine px_goto (tgt := 18) dX12_held_14 (by decide) ?_
      refine px_iretI dX12_held_18 rfl ?_
      exact ⟨by first | (simp [mHeld, *]; done) | (simp_all [mHeld]; done), rfl⟩
  · skip
    refine px_iconst (v := 0) dX12_held_4 (by decide) ?_
    refine px_goto (tgt := 18) dX12_held_5 (by decide) ?_
    refine px_iretI dX12_held_18 rfl ?_
    exact ⟨by first | (simp [mHeld, *]; done) | (simp_all [mHeld]; done), rfl⟩
set_option maxHeartbeats 4000000 in
set_option maxRecDepth 100000 in
theorem c_X12_oneOf (G : Gt) (m : Int32) : PS G 1 Y12_oneOf [.int m] (mOne m) := by
  refine ps_ofp (ls := [some (.int m)]) (by decide +kernel) rfl (Nat.le_of_ble_eq_true rfl) (fun h => ?_)
  refine px_iload_n dX12_oneOf_0 rfl rfl ?_
  refine px_iconst (v := 2) dX12_oneOf_1 (by decide) ?_
  refine px_icmp_ge (tgt := 9) dX12_oneOf_2 (by decide) (fun H2 => ?_) (fun H2 => ?_)
  · skip
    refine px_iload_n dX12_oneOf_9 rfl rfl ?_
    refine px_iconst (v := 2) dX12_oneOf_10 (by decide) ?_
    refine px_icmp_ne (tgt := 18) dX12_oneOf_11 (by decide) (fun H11 => ?_) (fun H11 => ?_)
    · skip
      refine px_iload_n dX12_oneOf_18 rfl rfl ?_
      refine px_iconst (v := 5) dX12_oneOf_19 (by decide) ?_
      refine px_icmp_ne (tgt := 27) dX12_oneOf_20 (by decide) (fun H20 => ?_) (fun H20 => ?_)
      · skip
        refine px_iconst (v := 2) dX12_oneOf_27 (by decide) ?_
        refine px_iretI dX12_oneOf_28 rfl ?_
        exact ⟨by first | (simp [mOne, *]; done) | (simp_all [mOne]; done), rfl⟩
      · skip
        refine px_iconst (v := 3) dX12_oneOf_23 (by decide) ?_
        refine px_goto (tgt := 28) dX12_oneOf_24 (by decide) ?_
        refine px_iretI dX12_oneOf_28 rfl ?_
        exact ⟨by first | (simp [mOne, *]; done) | (simp_all [mOne]; done), rfl⟩
    · skip
      refine px_iconst (v := 1) dX12_oneOf_14 (by decide) ?_
      refine px_goto (tgt := 28) dX12_oneOf_15 (by decide) ?_
      refine px_iretI dX12_oneOf_28 rfl ?_
      exact ⟨by first | (simp [mOne, *]; done) | (simp_all [mOne]; done), rfl⟩
  · skip
    refine px_iconst (v := 0) dX12_oneOf_5 (by decide) ?_
    refine px_goto (tgt := 28) dX12_oneOf_6 (by decide) ?_
    refine px_iretI dX12_oneOf_28 rfl ?_
    exact ⟨by first | (simp [mOne, *]; done) | (simp_all [mOne]; done), rfl⟩
set_option maxHeartbeats 4000000 in
set_option maxRecDepth 100000 in
theorem c_X12_otherOf (G : Gt) (m : Int32) : PS G 1 Y12_otherOf [.int m] (mOther m) := by
  refine ps_ofp (ls := [some (.int m)]) (by decide +kernel) rfl (Nat.le_of_ble_eq_true rfl) (fun h => ?_)
  refine px_iload_n dX12_otherOf_0 rfl rfl ?_
  refine px_if_ne (tgt := 8) dX12_otherOf_1 (by decide) (fun H1 => ?_) (fun H1 => ?_)
  · skip
    refine px_iload_n dX12_otherOf_8 rfl rfl ?_
    refine px_iconst (v := 3) dX12_otherOf_9 (by decide) ?_
    refine px_icmp_ge (tgt := 17) dX12_otherOf_10 (by decide) (fun H10 => ?_) (fun H10 => ?_)
    · skip
      refine px_iload_n dX12_otherOf_17 rfl rfl ?_
      refine px_iconst (v := 3) dX12_otherOf_18 (by decide) ?_
      refine px_icmp_ne (tgt := 26) dX12_otherOf_19 (by decide) (fun H19 => ?_) (fun H19 => ?_)
      · skip
        refine px_iconst (v := 4) dX12_otherOf_26 (by decide) ?_
        refine px_iretI dX12_otherOf_27 rfl ?_
        exact ⟨by first | (simp [mOther, *]; done) | (simp_all [mOther]; done), rfl⟩
      · skip
        refine px_iconst (v := 3) dX12_otherOf_22 (by decide) ?_
        refine px_goto (tgt := 27) dX12_otherOf_23 (by decide) ?_
        refine px_iretI dX12_otherOf_27 rfl ?_
        exact ⟨by first | (simp [mOther, *]; done) | (simp_all [mOther]; done), rfl⟩
    · skip
      refine px_iconst (v := 2) dX12_otherOf_13 (by decide) ?_
      refine px_goto (tgt := 27) dX12_otherOf_14 (by decide) ?_
      refine px_iretI dX12_otherOf_27 rfl ?_
      exact ⟨by first | (simp [mOther, *]; done) | (simp_all [mOther]; done), rfl⟩
  · skip
    refine px_iconst (v := 1) dX12_otherOf_4 (by decide) ?_
    refine px_goto (tgt := 27) dX12_otherOf_5 (by decide) ?_
    refine px_iretI dX12_otherOf_27 rfl ?_
    exact ⟨by first | (simp [mOther, *]; done) | (simp_all [mOther]; done), rfl⟩
set_option maxHeartbeats 4000000 in
set_option maxRecDepth 100000 in
theorem c_X12_isUnder (G : Gt) (k above : Int32) : PS G 1 Y12_isUnder [.int k, .int above] (mUnder k above) := by
  refine ps_ofp (ls := [some (.int k), some (.int above)]) (by decide +kernel) rfl (Nat.le_of_ble_eq_true rfl) (fun h => ?_)
  refine px_iload_n dX12_isUnder_0 rfl rfl ?_
  refine px_if_eq (tgt := 29) dX12_isUnder_1 (by decide) (fun H1 => ?_) (fun H1 => ?_)
  · skip
    refine px_iconst (v := 1) dX12_isUnder_29 (by decide) ?_
    refine px_goto (tgt := 34) dX12_isUnder_30 (by decide) ?_
    refine px_iretZ dX12_isUnder_34 rfl (by first | rfl | decide) ?_
    exact ⟨by first | (simp [mUnder, *]; done) | (simp_all [mUnder]; done), rfl⟩
  · skip
    refine px_iload_n dX12_isUnder_4 rfl rfl ?_
    refine px_iload_n dX12_isUnder_5 rfl rfl ?_
    refine px_icmp_eq (tgt := 29) dX12_isUnder_6 (by decide) (fun H6 => ?_) (fun H6 => ?_)
    · skip
      refine px_iconst (v := 1) dX12_isUnder_29 (by decide) ?_
      refine px_goto (tgt := 34) dX12_isUnder_30 (by decide) ?_
      refine px_iretZ dX12_isUnder_34 rfl (by first | rfl | decide) ?_
      exact ⟨by first | (simp [mUnder, *]; done) | (simp_all [mUnder]; done), rfl⟩
    · skip
      refine px_iload_n dX12_isUnder_9 rfl rfl ?_
      refine px_iconst (v := 1) dX12_isUnder_10 (by decide) ?_
      refine px_icmp_ne (tgt := 19) dX12_isUnder_11 (by decide) (fun H11 => ?_) (fun H11 => ?_)
      · skip
        refine px_iload_n dX12_isUnder_19 rfl rfl ?_
        refine px_iconst (v := 2) dX12_isUnder_20 (by decide) ?_
        refine px_icmp_ne (tgt := 33) dX12_isUnder_21 (by decide) (fun H21 => ?_) (fun H21 => ?_)
        · skip
          refine px_iconst (v := 0) dX12_isUnder_33 (by decide) ?_
          refine px_iretZ dX12_isUnder_34 rfl (by first | rfl | decide) ?_
          exact ⟨by first | (simp [mUnder, *]; done) | (simp_all [mUnder]; done), rfl⟩
        · skip
          refine px_iload_n dX12_isUnder_24 rfl rfl ?_
          refine px_iconst (v := 5) dX12_isUnder_25 (by decide) ?_
          refine px_icmp_ne (tgt := 33) dX12_isUnder_26 (by decide) (fun H26 => ?_) (fun H26 => ?_)
          · skip
            refine px_iconst (v := 0) dX12_isUnder_33 (by decide) ?_
            refine px_iretZ dX12_isUnder_34 rfl (by first | rfl | decide) ?_
            exact ⟨by first | (simp [mUnder, *]; done) | (simp_all [mUnder]; done), rfl⟩
          · skip
            refine px_iconst (v := 1) dX12_isUnder_29 (by decide) ?_
            refine px_goto (tgt := 34) dX12_isUnder_30 (by decide) ?_
            refine px_iretZ dX12_isUnder_34 rfl (by first | rfl | decide) ?_
            exact ⟨by first | (simp [mUnder, *]; done) | (simp_all [mUnder]; done), rfl⟩
      · skip
        refine px_iload_n dX12_isUnder_14 rfl rfl ?_
        refine px_iconst (v := 4) dX12_isUnder_15 (by decide) ?_
        refine px_icmp_eq (tgt := 29) dX12_isUnder_16 (by decide) (fun H16 => ?_) (fun H16 => ?_)
        · skip
          refine px_iconst (v := 1) dX12_isUnder_29 (by decide) ?_
          refine px_goto (tgt := 34) dX12_isUnder_30 (by decide) ?_
          refine px_iretZ dX12_isUnder_34 rfl (by first | rfl | decide) ?_
          exact ⟨by first | (simp [mUnder, *]; done) | (simp_all [mUnder]; done), rfl⟩
        · skip
          refine px_iload_n dX12_isUnder_19 rfl rfl ?_
          refine px_iconst (v := 2) dX12_isUnder_20 (by decide) ?_
          refine px_icmp_ne (tgt := 33) dX12_isUnder_21 (by decide) (fun H21 => ?_) (fun H21 => ?_)
          · skip
            refine px_iconst (v := 0) dX12_isUnder_33 (by decide) ?_
            refine px_iretZ dX12_isUnder_34 rfl (by first | rfl | decide) ?_
            exact ⟨by first | (simp [mUnder, *]; done) | (simp_all [mUnder]; done), rfl⟩
          · skip
            refine px_iload_n dX12_isUnder_24 rfl rfl ?_
            refine px_iconst (v := 5) dX12_isUnder_25 (by decide) ?_
            refine px_icmp_ne (tgt := 33) dX12_isUnder_26 (by decide) (fun H26 => ?_) (fun H26 => ?_)
            · skip
              refine px_iconst (v := 0) dX12_isUnder_33 (by decide) ?_
              refine px_iretZ dX12_isUnder_34 rfl (by first | rfl | decide) ?_
              exact ⟨by first | (simp [mUnder, *]; done) | (simp_all [mUnder]; done), rfl⟩
            · skip
              refine px_iconst (v := 1) dX12_isUnder_29 (by decide) ?_
              refine px_goto (tgt := 34) dX12_isUnder_30 (by decide) ?_
              refine px_iretZ dX12_isUnder_34 rfl (by first | rfl | decide) ?_
              exact ⟨by first | (simp [mUnder, *]; done) | (simp_all [mUnder]; done), rfl⟩
set_option maxHeartbeats 4000000 in
set_option maxRecDepth 100000 in
theorem c_X12_isLetter (G : Gt) (b : Int32) : PS G 2 Y12_isLetter [.int b] (mIn b 97 122) := by
  refine ps_ofp (ls := [some (.int b)]) (by decide +kernel) rfl (Nat.le_of_ble_eq_true rfl) (fun h => ?_)
  refine px_iload_n dX12_isLetter_0 rfl rfl ?_
  refine px_bipush (v := 97) dX12_isLetter_1 (by decide) ?_
  refine px_bipush (v := 122) dX12_isLetter_3 (by decide) ?_
  refine px_pure3 dX12_isLetter_5 lX12_109 (c_X12_in G _ _ _) (by decide) (Nat.le_of_ble_eq_true rfl) ?_
  refine px_iretZ dX12_isLetter_8 rfl (narZ (mIn_01 _ _ _)) ?_
  exact ⟨rfl, rfl⟩
set_option maxHeartbeats 4000000 in
set_option maxRecDepth 100000 in
theorem c_X12_isDigit (G : Gt) (b : Int32) : PS G 2 Y12_isDigit [.int b] (mIn b 48 57) := by
  refine ps_ofp (ls := [some (.int b)]) (by decide +kernel) rfl (Nat.le_of_ble_eq_true rfl) (fun h => ?_)
  refine px_iload_n dX12_isDigit_0 rfl rfl ?_
  refine px_bipush (v := 48) dX12_isDigit_1 (by decide) ?_
  refine px_bipush (v := 57) dX12_isDigit_3 (by decide) ?_
  refine px_pure3 dX12_isDigit_5 lX12_109 (c_X12_in G _ _ _) (by decide) (Nat.le_of_ble_eq_true rfl) ?_
  refine px_iretZ dX12_isDigit_8 rfl (narZ (mIn_01 _ _ _)) ?_
  exact ⟨rfl, rfl⟩
set_option maxHeartbeats 4000000 in
set_option maxRecDepth 100000 in
theorem c_X12_isSheet (G : Gt) (s : Int32) : PS G 2 Y12_isSheet [.int s] (mIn s 0 3) := by
  refine ps_ofp (ls := [some (.int s)]) (by decide +kernel) rfl (Nat.le_of_ble_eq_true rfl) (fun h => ?_)
  refine px_iload_n dX12_isSheet_0 rfl rfl ?_
  refine px_iconst (v := 0) dX12_isSheet_1 (by decide) ?_
  refine px_iconst (v := 3) dX12_isSheet_2 (by decide) ?_
  refine px_pure3 dX12_isSheet_3 lX12_109 (c_X12_in G _ _ _) (by decide) (Nat.le_of_ble_eq_true rfl) ?_
  refine px_iretZ dX12_isSheet_6 rfl (narZ (mIn_01 _ _ _)) ?_
  exact ⟨rfl, rfl⟩
set_option maxHeartbeats 4000000 in
set_option maxRecDepth 100000 in
theorem c_X12_twoOf (G : Gt) (w a b : Int32) : PS G 1 Y12_twoOf [.int w, .int a, .int b] (mTwo w a b) := by
  refine ps_ofp (ls := [some (.int w), some (.int a), some (.int b)]) (by decide +kernel) rfl (Nat.le_of_ble_eq_true rfl) (fun h => ?_)
  refine px_iload_n dX12_twoOf_0 rfl rfl ?_
  by_cases H1_5 : w = 5
  · refine px_lookup (off := 59) (tgt := 60) dX12_twoOf_1 (by decide) (by rw [H1_5]; rfl) (by decide) ?_
    refine px_iload_n dX12_twoOf_60 rfl rfl ?_
    refine px_if_ne (tgt := 68) dX12_twoOf_61 (by decide) (fun H61 => ?_) (fun H61 => ?_)
    · skip
      refine px_iconst (v := 1) dX12_twoOf_68 (by decide) ?_
      refine px_goto (tgt := 73) dX12_twoOf_69 (by decide) ?_
      refine px_iretI dX12_twoOf_73 rfl ?_
      exact ⟨by first | (simp [mTwo, *]; done) | (simp_all [mTwo]; done), rfl⟩
    · skip
      refine px_iload_n dX12_twoOf_64 rfl rfl ?_
      refine px_if_eq (tgt := 72) dX12_twoOf_65 (by decide) (fun H65 => ?_) (fun H65 => ?_)
      · skip
        refine px_iconst (v := 0) dX12_twoOf_72 (by decide) ?_
        refine px_iretI dX12_twoOf_73 rfl ?_
        exact ⟨by first | (simp [mTwo, *]; done) | (simp_all [mTwo]; done), rfl⟩
      · skip
        refine px_iconst (v := 1) dX12_twoOf_68 (by decide) ?_
        refine px_goto (tgt := 73) dX12_twoOf_69 (by decide) ?_
        refine px_iretI dX12_twoOf_73 rfl ?_
        exact ⟨by first | (simp [mTwo, *]; done) | (simp_all [mTwo]; done), rfl⟩
  by_cases H1_6 : w = 6
  · refine px_lookup (off := 73) (tgt := 74) dX12_twoOf_1 (by decide) (by rw [H1_6]; rfl) (by decide) ?_
    refine px_iload_n dX12_twoOf_74 rfl rfl ?_
    refine px_if_eq (tgt := 86) dX12_twoOf_75 (by decide) (fun H75 => ?_) (fun H75 => ?_)
    · skip
      refine px_iconst (v := 0) dX12_twoOf_86 (by decide) ?_
      refine px_iretI dX12_twoOf_87 rfl ?_
      exact ⟨by first | (simp [mTwo, *]; done) | (simp_all [mTwo]; done), rfl⟩
    · skip
      refine px_iload_n dX12_twoOf_78 rfl rfl ?_
      refine px_if_eq (tgt := 86) dX12_twoOf_79 (by decide) (fun H79 => ?_) (fun H79 => ?_)
      · skip
        refine px_iconst (v := 0) dX12_twoOf_86 (by decide) ?_
        refine px_iretI dX12_twoOf_87 rfl ?_
        exact ⟨by first | (simp [mTwo, *]; done) | (simp_all [mTwo]; done), rfl⟩
      · skip
        refine px_iconst (v := 1) dX12_twoOf_82 (by decide) ?_
        refine px_goto (tgt := 87) dX12_twoOf_83 (by decide) ?_
        refine px_iretI dX12_twoOf_87 rfl ?_
        exact ⟨by first | (simp [mTwo, *]; done) | (simp_all [mTwo]; done), rfl⟩
  by_cases H1_43 : w = 43
  · refine px_lookup (off := 109) (tgt := 110) dX12_twoOf_1 (by decide) (by rw [H1_43]; rfl) (by decide) ?_
    refine px_iload_n dX12_twoOf_110 rfl rfl ?_
    refine px_iload_n dX12_twoOf_111 rfl rfl ?_
    refine px_iadd dX12_twoOf_112 ?_
    refine px_iretI dX12_twoOf_113 rfl ?_
    exact ⟨by first | (simp [mTwo, *]; done) | (simp_all [mTwo]; done), rfl⟩
  by_cases H1_45 : w = 45
  · refine px_lookup (off := 113) (tgt := 114) dX12_twoOf_1 (by decide) (by rw [H1_45]; rfl) (by decide) ?_
    refine px_iload_n dX12_twoOf_114 rfl rfl ?_
    refine px_iload_n dX12_twoOf_115 rfl rfl ?_
    refine px_isub dX12_twoOf_116 ?_
    refine px_iretI dX12_twoOf_117 rfl ?_
    exact ⟨by first | (simp [mTwo, *]; done) | (simp_all [mTwo]; done), rfl⟩
  by_cases H1_60 : w = 60
  · refine px_lookup (off := 87) (tgt := 88) dX12_twoOf_1 (by decide) (by rw [H1_60]; rfl) (by decide) ?_
    refine px_iload_n dX12_twoOf_88 rfl rfl ?_
    refine px_iload_n dX12_twoOf_89 rfl rfl ?_
    refine px_icmp_ge (tgt := 97) dX12_twoOf_90 (by decide) (fun H90 => ?_) (fun H90 => ?_)
    · skip
      refine px_iconst (v := 0) dX12_twoOf_97 (by decide) ?_
      refine px_iretI dX12_twoOf_98 rfl ?_
      exact ⟨by first | (simp [mTwo, *]; done) | (simp_all [mTwo]; done), rfl⟩
    · skip
      refine px_iconst (v := 1) dX12_twoOf_93 (by decide) ?_
      refine px_goto (tgt := 98) dX12_twoOf_94 (by decide) ?_
      refine px_iretI dX12_twoOf_98 rfl ?_
      exact ⟨by first | (simp [mTwo, *]; done) | (simp_all [mTwo]; done), rfl⟩
  by_cases H1_61 : w = 61
  · refine px_lookup (off := 98) (tgt := 99) dX12_twoOf_1 (by decide) (by rw [H1_61]; rfl) (by decide) ?_
    refine px_iload_n dX12_twoOf_99 rfl rfl ?_
    refine px_iload_n dX12_twoOf_100 rfl rfl ?_
    refine px_icmp_ne (tgt := 108) dX12_twoOf_101 (by decide) (fun H101 => ?_) (fun H101 => ?_)
    · skip
      refine px_iconst (v := 0) dX12_twoOf_108 (by decide) ?_
      refine px_iretI dX12_twoOf_109 rfl ?_
      exact ⟨by first | (simp [mTwo, *]; done) | (simp_all [mTwo]; done), rfl⟩
    · skip
      refine px_iconst (v := 1) dX12_twoOf_104 (by decide) ?_
      refine px_goto (tgt := 109) dX12_twoOf_105 (by decide) ?_
      refine px_iretI dX12_twoOf_109 rfl ?_
      exact ⟨by first | (simp [mTwo, *]; done) | (simp_all [mTwo]; done), rfl⟩
  refine px_lookup (off := 117) (tgt := 118) dX12_twoOf_1 (by decide) (lk_two ‹_› ‹_› ‹_› ‹_› ‹_› ‹_›) (by decide) ?_
  refine px_iload_n dX12_twoOf_118 rfl rfl ?_
  refine px_iload_n dX12_twoOf_119 rfl rfl ?_
  refine px_imul dX12_twoOf_120 ?_
  refine px_iretI dX12_twoOf_121 rfl ?_
  exact ⟨by first | (simp [mTwo, *]; done) | (simp_all [mTwo]; done), rfl⟩
