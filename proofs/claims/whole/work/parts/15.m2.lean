/-! THE REFERENCE: hanks, coats -/
def mHk (S : MS) (v : Int32) : Int32 := mIn v 0 (S 1 0 - 1)
def mCt (S : MS) (v : Int32) : Int32 := mIn v 0 (S 6 0 - 1)
theorem nI_toInt' {n : Nat} (h : n ≤ 100000) : (nI n).toInt = (n : Int) := nI_toInt (by omega)
theorem nIm1 {n : Nat} (h : n ≤ 100000) : (nI n - 1).toInt = (n : Int) - 1 := by
  have h1 := nI_toInt' h
  have e : (1 : Int32).toInt = 1 := by decide
  rw [fb_subI] <;> rw [h1, e] <;> omega
/-- a place that the test lets through -/
theorem ix_of {v : Int32} {n : Nat} (hn : n ≤ 100000) (H : ¬ mIn v 0 (nI n - 1) = 0) : ∃ j : Nat, j < n ∧ v = nI j := by
  rw [mIn_1, i_lt, i_lt, nIm1 hn] at H
  have e : (0 : Int32).toInt = 0 := by decide
  rw [e] at H
  refine ⟨v.toInt.toNat, by omega, ?_⟩
  rw [i_eq, nI_toInt' (by omega)]
  omega
/-- a number that the test lets through -/
theorem in_of {v : Int32} {n : Nat} {hi : Int32} (hh : hi = nI n) (hn : n ≤ 100000) (H : ¬ mIn v 0 hi = 0) : ∃ j : Nat, j ≤ n ∧ v = nI j := by
  subst hh
  rw [mIn_1, i_lt, i_lt, nI_toInt' hn] at H
  have e : (0 : Int32).toInt = 0 := by decide
  rw [e] at H
  refine ⟨v.toInt.toNat, by omega, ?_⟩
  rw [i_eq, nI_toInt' (by omega)]
  omega
theorem lt_n {a b : Nat} (ha : a ≤ 100000) (hb : b ≤ 100000) (H : nI a < nI b) : a < b := (nI_ltI (by omega) (by omega)).mp H
theorem ge_n {a b : Nat} (ha : a ≤ 100000) (hb : b ≤ 100000) (H : ¬ nI a < nI b) : b ≤ a := Nat.le_of_not_lt fun q => H ((nI_ltI (by omega) (by omega)).mpr q)
theorem eq_n {a b : Nat} (ha : a ≤ 100000) (hb : b ≤ 100000) (H : nI a = nI b) : a = b := (nI_eq (by omega) (by omega)).mp H
theorem ne_n {a b : Nat} (ha : a ≤ 100000) (hb : b ≤ 100000) (H : ¬ nI a = nI b) : a ≠ b := fun q => H ((nI_eq (by omega) (by omega)).mpr q)
theorem fr_eq {X : List Nat} {S1 S2 : MS} (h : S1 = S2) : fr X S1 S2 := h ▸ fr.rf
def mPl (S : MS) (c : Nat) (p : Int32) : Int32 := if p < 2 then S 8 c + 1 else if p < 4 then 2 * S 8 c else 1
def mTk (S : MS) (c : Nat) (p : Int32) : Int32 := if S 7 c = 3 ∧ (S 9 c >>> (p &&& 31)) &&& 1 = 1 then 0 else if S 7 c = 5 then mPl S c p + 1 else mPl S c p
def mTkS (S : MS) (c : Nat) : Nat → Int32
  | 0 => 0
  | p + 1 => mTkS S c p + mTk S c (nI p)
def mPlB (m : Int32) : Int32 := if m = 0 then 0 else if m < 3 then 2 else 4
def mBe (S : MS) (c : Nat) (m : Int32) : Int32 := if S 7 c = 1 then mPlB m + S 9 c else if S 7 c = 2 then mPlB m + 1 else if S 7 c = 4 then (mPlB m + S 9 c) / 2 else mPlB m
def mBr (S : MS) (c : Nat) : Int32 := if S 7 c = 1 then S 10 c - S 9 c else if S 7 c = 4 then 2 * (S 10 c - S 9 c) else if S 7 c = 5 then S 10 c + S 9 c else S 10 c
def mSh (S : MS) (h : Nat) : Int32 := mHeld (S 3 h - S 5 (S 4 h).toNatClampNeg) 99
set_option maxHeartbeats 4000000 in
set_option maxRecDepth 100000 in
theorem c_X12_isHank (G : Gt) (m : Nat) (h0 : Ht) (S : MS) (v : Int32)  : PC G (MPic G m h0) 2 Y12_isHank [.ref m, .int v] S 0 0 (ri (fun x S' => x = mHk S v ∧ S' = S)) := by
  refine pc_of (ls := [some (.ref m), some (.int v)]) (by decide +kernel) rfl (Nat.le_of_ble_eq_true rfl) ?_
  refine px_iload_n dX12_isHank_0 rfl rfl ?_
  refine px_iconst (v := 0) dX12_isHank_1 (by decide) ?_
  refine px_aload_n dX12_isHank_2 rfl rfl ?_
  refine mx_getI (k := 1) dX12_isHank_3 gX12_106 (fun _ => rfl) ?_
  refine px_iconst (v := 1) dX12_isHank_6 (by decide) ?_
  refine px_isub dX12_isHank_7 ?_
  refine px_pure3 dX12_isHank_8 lX12_109 (c_X12_in G _ _ _) (by decide) (Nat.le_of_ble_eq_true rfl) ?_
  refine px_iretZ dX12_isHank_11 rfl (narZ (mIn_01 _ _ _)) ?_
  exact ⟨rfl, rfl⟩
set_option maxHeartbeats 4000000 in
set_option maxRecDepth 100000 in
theorem c_X12_isCoat (G : Gt) (m : Nat) (h0 : Ht) (S : MS) (v : Int32)  : PC G (MPic G m h0) 2 Y12_isCoat [.ref m, .int v] S 0 0 (ri (fun x S' => x = mCt S v ∧ S' = S)) := by
  refine pc_of (ls := [some (.ref m), some (.int v)]) (by decide +kernel) rfl (Nat.le_of_ble_eq_true rfl) ?_
  refine px_iload_n dX12_isCoat_0 rfl rfl ?_
  refine px_iconst (v := 0) dX12_isCoat_1 (by decide) ?_
  refine px_aload_n dX12_isCoat_2 rfl rfl ?_
  refine mx_getI (k := 6) dX12_isCoat_3 gX12_113 (fun _ => rfl) ?_
  refine px_iconst (v := 1) dX12_isCoat_6 (by decide) ?_
  refine px_isub dX12_isCoat_7 ?_
  refine px_pure3 dX12_isCoat_8 lX12_109 (c_X12_in G _ _ _) (by decide) (Nat.le_of_ble_eq_true rfl) ?_
  refine px_iretZ dX12_isCoat_11 rfl (narZ (mIn_01 _ _ _)) ?_
  exact ⟨rfl, rfl⟩
set_option maxHeartbeats 4000000 in
set_option maxRecDepth 100000 in
theorem c_X12_shadeOf (G : Gt) (m : Nat) (h0 : Ht) (S : MS) (h : Nat) (hh : h < 6) (v : Nat) (hv : S 4 h = nI v) (hv9 : v < 9) : PC G (MPic G m h0) 2 Y12_shadeOf [.ref m, .int (nI h)] S 0 0 (ri (fun x S' => x = mSh S h ∧ S' = S)) := by
  refine pc_of (ls := [some (.ref m), some (.int (nI h))]) (by decide +kernel) rfl (Nat.le_of_ble_eq_true rfl) ?_
  refine px_aload_n dX12_shadeOf_0 rfl rfl ?_
  refine mx_getA (k := 3) (j := 1) dX12_shadeOf_1 gX12_13 (fun _ => rfl) ?_
  refine px_iload_n dX12_shadeOf_4 rfl rfl ?_
  refine mx_iald (j := 1) (k := 3) _ dX12_shadeOf_5 rfl rfl (by omega) (by decide) ?_
  refine px_aload_n dX12_shadeOf_6 rfl rfl ?_
  refine mx_getA (k := 5) (j := 3) dX12_shadeOf_7 gX12_19 (fun _ => rfl) ?_
  refine px_aload_n dX12_shadeOf_10 rfl rfl ?_
  refine mx_getA (k := 4) (j := 2) dX12_shadeOf_11 gX12_16 (fun _ => rfl) ?_
  refine px_iload_n dX12_shadeOf_14 rfl rfl ?_
  refine mx_iald (j := 2) (k := 4) _ dX12_shadeOf_15 rfl rfl (by omega) (by decide) ?_
  refine mx_iald (j := 3) (k := 5) (v) dX12_shadeOf_16 rfl hv (by omega) (by decide) ?_
  refine px_isub dX12_shadeOf_17 ?_
  refine px_bipush (v := 99) dX12_shadeOf_18 (by decide) ?_
  refine px_pure2 dX12_shadeOf_20 lX12_120 (c_X12_held G _ _) (by decide) (Nat.le_of_ble_eq_true rfl) ?_
  refine px_iretI dX12_shadeOf_23 rfl ?_
  exact ⟨by rw [mSh, hv, nI_clamp (by omega)], rfl⟩
set_option maxHeartbeats 4000000 in
set_option maxRecDepth 100000 in
theorem c_X12_takes (G : Gt) (m : Nat) (h0 : Ht) (S : MS) (c : Nat) (p : Int32) (hc : c < 8) : PC G (MPic G m h0) 1 Y12_takes [.ref m, .int (nI c), .int p] S 0 0 (ri (fun x S' => x = mTk S c p ∧ S' = S)) := by
  refine pc_of (ls := [some (.ref m), some (.int (nI c)), some (.int p), none]) (by decide +kernel) rfl (Nat.le_of_ble_eq_true rfl) ?_
  refine px_aload_n dX12_takes_0 rfl rfl ?_
  refine mx_getA (k := 7) (j := 4) dX12_takes_1 gX12_22 (fun _ => rfl) ?_
  refine px_iload_n dX12_takes_4 rfl rfl ?_
  refine mx_iald (j := 4) (k := 7) _ dX12_takes_5 rfl rfl (by omega) (by decide) ?_
  refine px_iconst (v := 3) dX12_takes_6 (by decide) ?_
  refine px_icmp_ne (tgt := 26) dX12_takes_7 (by decide) (fun H7 => ?_) (fun H7 => ?_)
  · skip
    refine px_iload_n dX12_takes_26 rfl rfl ?_
    refine px_iconst (v := 2) dX12_takes_27 (by decide) ?_
    refine px_icmp_ge (tgt := 42) dX12_takes_28 (by decide) (fun H28 => ?_) (fun H28 => ?_)
    · skip
      refine px_iload_n dX12_takes_42 rfl rfl ?_
      refine px_iconst (v := 4) dX12_takes_43 (by decide) ?_
      refine px_icmp_ge (tgt := 58) dX12_takes_44 (by decide) (fun H44 => ?_) (fun H44 => ?_)
      · skip
        refine px_iconst (v := 1) dX12_takes_58 (by decide) ?_
        refine px_istore_n3 dX12_takes_59 (by decide) rfl ?_
        refine px_aload_n dX12_takes_60 rfl rfl ?_
        refine mx_getA (k := 7) (j := 4) dX12_takes_61 gX12_22 (fun _ => rfl) ?_
        refine px_iload_n dX12_takes_64 rfl rfl ?_
        refine mx_iald (j := 4) (k := 7) _ dX12_takes_65 rfl rfl (by omega) (by decide) ?_
        refine px_iconst (v := 5) dX12_takes_66 (by decide) ?_
        refine px_icmp_ne (tgt := 76) dX12_takes_67 (by decide) (fun H67 => ?_) (fun H67 => ?_)
        · skip
          refine px_iload_n dX12_takes_76 rfl rfl ?_
          refine px_iretI dX12_takes_77 rfl ?_
          exact ⟨by first | (simp [mTk, mPl, *]; done) | (simp_all [mTk, mPl]; done), rfl⟩
        · skip
          refine px_iload_n dX12_takes_70 rfl rfl ?_
          refine px_iconst (v := 1) dX12_takes_71 (by decide) ?_
          refine px_iadd dX12_takes_72 ?_
          refine px_goto (tgt := 77) dX12_takes_73 (by decide) ?_
          refine px_iretI dX12_takes_77 rfl ?_
          exact ⟨by first | (simp [mTk, mPl, *]; done) | (simp_all [mTk, mPl]; done), rfl⟩
      · skip
        refine px_iconst (v := 2) dX12_takes_47 (by decide) ?_
        refine px_aload_n dX12_takes_48 rfl rfl ?_
        refine mx_getA (k := 8) (j := 5) dX12_takes_49 gX12_25 (fun _ => rfl) ?_
        refine px_iload_n dX12_takes_52 rfl rfl ?_
        refine mx_iald (j := 5) (k := 8) _ dX12_takes_53 rfl rfl (by omega) (by decide) ?_
        refine px_imul dX12_takes_54 ?_
        refine px_goto (tgt := 59) dX12_takes_55 (by decide) ?_
        refine px_istore_n3 dX12_takes_59 (by decide) rfl ?_
        refine px_aload_n dX12_takes_60 rfl rfl ?_
        refine mx_getA (k := 7) (j := 4) dX12_takes_61 gX12_22 (fun _ => rfl) ?_
        refine px_iload_n dX12_takes_64 rfl rfl ?_
        refine mx_iald (j := 4) (k := 7) _ dX12_takes_65 rfl rfl (by omega) (by decide) ?_
        refine px_iconst (v := 5) dX12_takes_66 (by decide) ?_
        refine px_icmp_ne (tgt := 76) dX12_takes_67 (by decide) (fun H67 => ?_) (fun H67 => ?_)
        · skip
          refine px_iload_n dX12_takes_76 rfl rfl ?_
          refine px_iretI dX12_takes_77 rfl ?_
          exact ⟨by first | (simp [mTk, mPl, *]; done) | (simp_all [mTk, mPl]; done), rfl⟩
        · skip
          refine px_iload_n dX12_takes_70 rfl rfl ?_
          refine px_iconst (v := 1) dX12_takes_71 (by decide) ?_
          refine px_iadd dX12_takes_72 ?_
          refine px_goto (tgt := 77) dX12_takes_73 (by decide) ?_
          refine px_iretI dX12_takes_77 rfl ?_
          exact ⟨by first | (simp [mTk, mPl, *]; done) | (simp_all [mTk, mPl]; done), rfl⟩
    · skip
      refine px_aload_n dX12_takes_31 rfl rfl ?_
      refine mx_getA (k := 8) (j := 5) dX12_takes_32 gX12_25 (fun _ => rfl) ?_
      refine px_iload_n dX12_takes_35 rfl rfl ?_
      refine mx_iald (j := 5) (k := 8) _ dX12_takes_36 rfl rfl (by omega) (by decide) ?_
      refine px_iconst (v := 1) dX12_takes_37 (by decide) ?_
      refine px_iadd dX12_takes_38 ?_
      refine px_goto (tgt := 59) dX12_takes_39 (by decide) ?_
      refine px_istore_n3 dX12_takes_59 (by decide) rfl ?_
      refine px_aload_n dX12_takes_60 rfl rfl ?_
      refine mx_getA (k := 7) (j := 4) dX12_takes_61 gX12_22 (fun _ => rfl) ?_
      refine px_iload_n dX12_takes_64 rfl rfl ?_
      refine mx_iald (j := 4) (k := 7) _ dX12_takes_65 rfl rfl (by omega) (by decide) ?_
      refine px_iconst (v := 5) dX12_takes_66 (by decide) ?_
      refine px_icmp_ne (tgt := 76) dX12_takes_67 (by decide) (fun H67 => ?_) (fun H67 => ?_)
      · skip
        refine px_iload_n dX12_takes_76 rfl rfl ?_
        refine px_iretI dX12_takes_77 rfl ?_
        exact ⟨by first | (simp [mTk, mPl, *]; done) | (simp_all [mTk, mPl]; done), rfl⟩
      · skip
        refine px_iload_n dX12_takes_70 rfl rfl ?_
        refine px_iconst (v := 1) dX12_takes_71 (by decide) ?_
        refine px_iadd dX12_takes_72 ?_
        refine px_goto (tgt := 77) dX12_takes_73 (by decide) ?_
        refine px_iretI dX12_takes_77 rfl ?_
        exact ⟨by first | (simp [mTk, mPl, *]; done) | (simp_all [mTk, mPl]; done), rfl⟩
  · skip
    refine px_aload_n dX12_takes_10 rfl rfl ?_
    refine mx_getA (k := 9) (j := 6) dX12_takes_11 gX12_28 (fun _ => rfl) ?_
    refine px_iload_n dX12_takes_14 rfl rfl ?_
    refine mx_iald (j := 6) (k := 9) _ dX12_takes_15 rfl rfl (by omega) (by decide) ?_
    refine px_iload_n dX12_takes_16 rfl rfl ?_
    refine px_ishr dX12_takes_17 ?_
    refine px_iconst (v := 1) dX12_takes_18 (by decide) ?_
    refine px_iand dX12_takes_19 ?_
    refine px_iconst (v := 1) dX12_takes_20 (by decide) ?_
    refine px_icmp_ne (tgt := 26) dX12_takes_21 (by decide) (fun H21 => ?_) (fun H21 => ?_)
    · skip
      refine px_iload_n dX12_takes_26 rfl rfl ?_
      refine px_iconst (v := 2) dX12_takes_27 (by decide) ?_
      refine px_icmp_ge (tgt := 42) dX12_takes_28 (by decide) (fun H28 => ?_) (fun H28 => ?_)
      · skip
        refine px_iload_n dX12_takes_42 rfl rfl ?_
        refine px_iconst (v := 4) dX12_takes_43 (by decide) ?_
        refine px_icmp_ge (tgt := 58) dX12_takes_44 (by decide) (fun H44 => ?_) (fun H44 => ?_)
        · skip
          refine px_iconst (v := 1) dX12_takes_58 (by decide) ?_
          refine px_istore_n3 dX12_takes_59 (by decide) rfl ?_
          refine px_aload_n dX12_takes_60 rfl rfl ?_
          refine mx_getA (k := 7) (j := 4) dX12_takes_61 gX12_22 (fun _ => rfl) ?_
          refine px_iload_n dX12_takes_64 rfl rfl ?_
          refine mx_iald (j := 4) (k := 7) _ dX12_takes_65 rfl rfl (by omega) (by decide) ?_
          refine px_iconst (v := 5) dX12_takes_66 (by decide) ?_
          refine px_icmp_ne (tgt := 76) dX12_takes_67 (by decide) (fun H67 => ?_) (fun H67 => ?_)
          · skip
            refine px_iload_n dX12_takes_76 rfl rfl ?_
            refine px_iretI dX12_takes_77 rfl ?_
            exact ⟨by first | (simp [mTk, mPl, *]; done) | (simp_all [mTk, mPl]; done), rfl⟩
          · skip
            refine px_iload_n dX12_takes_70 rfl rfl ?_
            refine px_iconst (v := 1) dX12_takes_71 (by decide) ?_
            refine px_iadd dX12_takes_72 ?_
            refine px_goto (tgt := 77) dX12_takes_73 (by decide) ?_
            refine px_iretI dX12_takes_77 rfl ?_
            exact ⟨by first | (simp [mTk, mPl, *]; done) | (simp_all [mTk, mPl]; done), rfl⟩
        · skip
          refine px_iconst (v := 2) dX12_takes_47 (by decide) ?_
          refine px_aload_n dX12_takes_48 rfl rfl ?_
          refine mx_getA (k := 8) (j := 5) dX12_takes_49 gX12_25 (fun _ => rfl) ?_
          refine px_iload_n dX12_takes_52 rfl rfl ?_
          refine mx_iald (j := 5) (k := 8) _ dX12_takes_53 rfl rfl (by omega) (by decide) ?_
          refine px_imul dX12_takes_54 ?_
          refine px_goto (tgt := 59) dX12_takes_55 (by decide) ?_
          refine px_istore_n3 dX12_takes_59 (by decide) rfl ?_
          refine px_aload_n dX12_takes_60 rfl rfl ?_
          refine mx_getA (k := 7) (j := 4) dX12_takes_61 gX12_22 (fun _ => rfl) ?_
          refine px_iload_n dX12_takes_64 rfl rfl ?_
          refine mx_iald (j := 4) (k := 7) _ dX12_takes_65 rfl rfl (by omega) (by decide) ?_
          refine px_iconst (v := 5) dX12_takes_66 (by decide) ?_
          refine px_icmp_ne (tgt := 76) dX12_takes_67 (by decide) (fun H67 => ?_) (fun H67 => ?_)
          · skip
            refine px_iload_n dX12_takes_76 rfl rfl ?_
            refine px_iretI dX12_takes_77 rfl ?_
            exact ⟨by first | (simp [mTk, mPl, *]; done) | (simp_all [mTk, mPl]; done), rfl⟩
          · skip
            refine px_iload_n dX12_takes_70 rfl rfl ?_
            refine px_iconst (v := 1) dX12_takes_71 (by decide) ?_
            refine px_iadd dX12_takes_72 ?_
            refine px_goto (tgt := 77) dX12_takes_73 (by decide) ?_
            refine px_iretI dX12_takes_77 rfl ?_
            exact ⟨by first | (simp [mTk, mPl, *]; done) | (simp_all [mTk, mPl]; done), rfl⟩
      · skip
        refine px_aload_n dX12_takes_31 rfl rfl ?_
        refine mx_getA (k := 8) (j := 5) dX12_takes_32 gX12_25 (fun _ => rfl) ?_
        refine px_iload_n dX12_takes_35 rfl rfl ?_
        refine mx_iald (j := 5) (k := 8) _ dX12_takes_36 rfl rfl (by omega) (by decide) ?_
        refine px_iconst (v := 1) dX12_takes_37 (by decide) ?_
        refine px_iadd dX12_takes_38 ?_
        refine px_goto (tgt := 59) dX12_takes_39 (by decide) ?_
        refine px_istore_n3 dX12_takes_59 (by decide) rfl ?_
        refine px_aload_n dX12_takes_60 rfl rfl ?_
        refine mx_getA (k := 7) (j := 4) dX12_takes_61 gX12_22 (fun _ => rfl) ?_
        refine px_iload_n dX12_takes_64 rfl rfl ?_
        refine mx_iald (j := 4) (k := 7) _ dX12_takes_65 rfl rfl (by omega) (by decide) ?_
        refine px_iconst (v := 5) dX12_takes_66 (by decide) ?_
        refine px_icmp_ne (tgt := 76) dX12_takes_67 (by decide) (fun H67 => ?_) (fun H67 => ?_)
        · skip
          refine px_iload_n dX12_takes_76 rfl rfl ?_
          refine px_iretI dX12_takes_77 rfl ?_
          exact ⟨by first | (simp [mTk, mPl, *]; done) | (simp_all [mTk, mPl]; done), rfl⟩
        · skip
          refine px_iload_n dX12_takes_70 rfl rfl ?_
          refine px_iconst (v := 1) dX12_takes_71 (by decide) ?_
          refine px_iadd dX12_takes_72 ?_
          refine px_goto (tgt := 77) dX12_takes_73 (by decide) ?_
          refine px_iretI dX12_takes_77 rfl ?_
          exact ⟨by first | (simp [mTk, mPl, *]; done) | (simp_all [mTk, mPl]; done), rfl⟩
    · skip
      refine px_iconst (v := 0) dX12_takes_24 (by decide) ?_
      refine px_iretI dX12_takes_25 rfl ?_
      exact ⟨by first | (simp [mTk, mPl, *]; done) | (simp_all [mTk, mPl]; done), rfl⟩
set_option maxHeartbeats 4000000 in
set_option maxRecDepth 100000 in
theorem c_X12_bears (G : Gt) (m : Nat) (h0 : Ht) (S : MS) (c : Nat) (q : Int32) (hc : c < 8) : PC G (MPic G m h0) 1 Y12_bears [.ref m, .int (nI c), .int q] S 0 0 (ri (fun x S' => x = mBe S c q ∧ S' = S)) := by
  refine pc_of (ls := [some (.ref m), some (.int (nI c)), some (.int q), none]) (by decide +kernel) rfl (Nat.le_of_ble_eq_true rfl) ?_
  refine px_iload_n dX12_bears_0 rfl rfl ?_
  refine px_if_ne (tgt := 8) dX12_bears_1 (by decide) (fun H1 => ?_) (fun H1 => ?_)
  · skip
    refine px_iload_n dX12_bears_8 rfl rfl ?_
    refine px_iconst (v := 3) dX12_bears_9 (by decide) ?_
    refine px_icmp_ge (tgt := 17) dX12_bears_10 (by decide) (fun H10 => ?_) (fun H10 => ?_)
    · skip
      refine px_iconst (v := 4) dX12_bears_17 (by decide) ?_
      refine px_istore_n3 dX12_bears_18 (by decide) rfl ?_
      refine px_aload_n dX12_bears_19 rfl rfl ?_
      refine mx_getA (k := 7) (j := 4) dX12_bears_20 gX12_22 (fun _ => rfl) ?_
      refine px_iload_n dX12_bears_23 rfl rfl ?_
      refine mx_iald (j := 4) (k := 7) _ dX12_bears_24 rfl rfl (by omega) (by decide) ?_
      rcases sw_1_5 (S 7 c) with H25 | H25 | H25 | H25 | H25 | H25
      · refine px_tableIn (off := 35) (tgt := 60) dX12_bears_25 (by rw [H25]; decide) (by rw [H25]; decide) (by rw [H25]; rfl) (by decide) ?_
        refine px_iload_n dX12_bears_60 rfl rfl ?_
        refine px_aload_n dX12_bears_61 rfl rfl ?_
        refine mx_getA (k := 9) (j := 6) dX12_bears_62 gX12_28 (fun _ => rfl) ?_
        refine px_iload_n dX12_bears_65 rfl rfl ?_
        refine mx_iald (j := 6) (k := 9) _ dX12_bears_66 rfl rfl (by omega) (by decide) ?_
        refine px_iadd dX12_bears_67 ?_
        refine px_iretI dX12_bears_68 rfl ?_
        exact ⟨by first | (simp [mBe, mPlB, *]; done) | (simp_all [mBe, mPlB]; done), rfl⟩
      · refine px_tableIn (off := 44) (tgt := 69) dX12_bears_25 (by rw [H25]; decide) (by rw [H25]; decide) (by rw [H25]; rfl) (by decide) ?_
        refine px_iload_n dX12_bears_69 rfl rfl ?_
        refine px_iconst (v := 1) dX12_bears_70 (by decide) ?_
        refine px_iadd dX12_bears_71 ?_
        refine px_iretI dX12_bears_72 rfl ?_
        exact ⟨by first | (simp [mBe, mPlB, *]; done) | (simp_all [mBe, mPlB]; done), rfl⟩
      · refine px_tableIn (off := 61) (tgt := 86) dX12_bears_25 (by rw [H25]; decide) (by rw [H25]; decide) (by rw [H25]; rfl) (by decide) ?_
        refine px_iload_n dX12_bears_86 rfl rfl ?_
        refine px_iretI dX12_bears_87 rfl ?_
        exact ⟨by first | (simp [mBe, mPlB, *]; done) | (simp_all [mBe, mPlB]; done), rfl⟩
      · refine px_tableIn (off := 48) (tgt := 73) dX12_bears_25 (by rw [H25]; decide) (by rw [H25]; decide) (by rw [H25]; rfl) (by decide) ?_
        refine px_iload_n dX12_bears_73 rfl rfl ?_
        refine px_aload_n dX12_bears_74 rfl rfl ?_
        refine mx_getA (k := 9) (j := 6) dX12_bears_75 gX12_28 (fun _ => rfl) ?_
        refine px_iload_n dX12_bears_78 rfl rfl ?_
        refine mx_iald (j := 6) (k := 9) _ dX12_bears_79 rfl rfl (by omega) (by decide) ?_
        refine px_iadd dX12_bears_80 ?_
        refine px_iconst (v := 2) dX12_bears_81 (by decide) ?_
        refine px_idiv dX12_bears_82 (by decide) ?_
        refine px_iretI dX12_bears_83 rfl ?_
        exact ⟨by first | (simp [mBe, mPlB, *]; done) | (simp_all [mBe, mPlB]; done), rfl⟩
      · refine px_tableIn (off := 59) (tgt := 84) dX12_bears_25 (by rw [H25]; decide) (by rw [H25]; decide) (by rw [H25]; rfl) (by decide) ?_
        refine px_iload_n dX12_bears_84 rfl rfl ?_
        refine px_iretI dX12_bears_85 rfl ?_
        exact ⟨by first | (simp [mBe, mPlB, *]; done) | (simp_all [mBe, mPlB]; done), rfl⟩
      · refine px_tableOut (tgt := 86) dX12_bears_25 H25 (by decide) ?_
        have N25_1 : ¬ S 7 c = 1 := by intro e9; rw [e9] at H25; revert H25; decide
        have N25_2 : ¬ S 7 c = 2 := by intro e9; rw [e9] at H25; revert H25; decide
        have N25_3 : ¬ S 7 c = 3 := by intro e9; rw [e9] at H25; revert H25; decide
        have N25_4 : ¬ S 7 c = 4 := by intro e9; rw [e9] at H25; revert H25; decide
        have N25_5 : ¬ S 7 c = 5 := by intro e9; rw [e9] at H25; revert H25; decide
        refine px_iload_n dX12_bears_86 rfl rfl ?_
        refine px_iretI dX12_bears_87 rfl ?_
        exact ⟨by first | (simp [mBe, mPlB, *]; done) | (simp_all [mBe, mPlB]; done), rfl⟩
    · skip
      refine px_iconst (v := 2) dX12_bears_13 (by decide) ?_
      refine px_goto (tgt := 18) dX12_bears_14 (by decide) ?_
      refine px_istore_n3 dX12_bears_18 (by decide) rfl ?_
      refine px_aload_n dX12_bears_19 rfl rfl ?_
      refine mx_getA (k := 7) (j := 4) dX12_bears_20 gX12_22 (fun _ => rfl) ?_
      refine px_iload_n dX12_bears_23 rfl rfl ?_
      refine mx_iald (j := 4) (k := 7) _ dX12_bears_24 rfl rfl (by omega) (by decide) ?_
      rcases sw_1_5 (S 7 c) with H25 | H25 | H25 | H25 | H25 | H25
      · refine px_tableIn (off := 35) (tgt := 60) dX12_bears_25 (by rw [H25]; decide) (by rw [H25]; decide) (by rw [H25]; rfl) (by decide) ?_
        refine px_iload_n dX12_bears_60 rfl rfl ?_
        refine px_aload_n dX12_bears_61 rfl rfl ?_
        refine mx_getA (k := 9) (j := 6) dX12_bears_62 gX12_28 (fun _ => rfl) ?_
        refine px_iload_n dX12_bears_65 rfl rfl ?_
        refine mx_iald (j := 6) (k := 9) _ dX12_bears_66 rfl rfl (by omega) (by decide) ?_
        refine px_iadd dX12_bears_67 ?_
        refine px_iretI dX12_bears_68 rfl ?_
        exact ⟨by first | (simp [mBe, mPlB, *]; done) | (simp_all [mBe, mPlB]; done), rfl⟩
      · refine px_tableIn (off := 44) (tgt := 69) dX12_bears_25 (by rw [H25]; decide) (by rw [H25]; decide) (by rw [H25]; rfl) (by decide) ?_
        refine px_iload_n dX12_bears_69 rfl rfl ?_
        refine px_iconst (v := 1) dX12_bears_70 (by decide) ?_
        refine px_iadd dX12_bears_71 ?_
        refine px_iretI dX12_bears_72 rfl ?_
        exact ⟨by first | (simp [mBe, mPlB, *]; done) | (simp_all [mBe, mPlB]; done), rfl⟩
      · refine px_tableIn (off := 61) (tgt := 86) dX12_bears_25 (by rw [H25]; decide) (by rw [H25]; decide) (by rw [H25]; rfl) (by decide) ?_
        refine px_iload_n dX12_bears_86 rfl rfl ?_
        refine px_iretI dX12_bears_87 rfl ?_
        exact ⟨by first | (simp [mBe, mPlB, *]; done) | (simp_all [mBe, mPlB]; done), rfl⟩
      · refine px_tableIn (off := 48) (tgt := 73) dX12_bears_25 (by rw [H25]; decide) (by rw [H25]; decide) (by rw [H25]; rfl) (by decide) ?_
        refine px_iload_n dX12_bears_73 rfl rfl ?_
        refine px_aload_n dX12_bears_74 rfl rfl ?_
        refine mx_getA (k := 9) (j := 6) dX12_bears_75 gX12_28 (fun _ => rfl) ?_
        refine px_iload_n dX12_bears_78 rfl rfl ?_
        refine mx_iald (j := 6) (k := 9) _ dX12_bears_79 rfl rfl (by omega) (by decide) ?_
        refine px_iadd dX12_bears_80 ?_
        refine px_iconst (v := 2) dX12_bears_81 (by decide) ?_
        refine px_idiv dX12_bears_82 (by decide) ?_
        refine px_iretI dX12_bears_83 rfl ?_
        exact ⟨by first | (simp [mBe, mPlB, *]; done) | (simp_all [mBe, mPlB]; done), rfl⟩
      · refine px_tableIn (off := 59) (tgt := 84) dX12_bears_25 (by rw [H25]; decide) (by rw [H25]; decide) (by rw [H25]; rfl) (by decide) ?_
        refine px_iload_n dX12_bears_84 rfl rfl ?_
        refine px_iretI dX12_bears_85 rfl ?_
        exact ⟨by first | (simp [mBe, mPlB, *]; done) | (simp_all [mBe, mPlB]; done), rfl⟩
      · refine px_tableOut (tgt := 86) dX12_bears_25 H25 (by decide) ?_
        have N25_1 : ¬ S 7 c = 1 := by intro e9; rw [e9] at H25; revert H25; decide
        have N25_2 : ¬ S 7 c = 2 := by intro e9; rw [e9] at H25; revert H25; decide
        have N25_3 : ¬ S 7 c = 3 := by intro e9; rw [e9] at H25; revert H25; decide
        have N25_4 : ¬ S 7 c = 4 := by intro e9; rw [e9] at H25; revert H25; decide
        have N25_5 : ¬ S 7 c = 5 := by intro e9; rw [e9] at H25; revert H25; decide
        refine px_iload_n dX12_bears_86 rfl rfl ?_
        refine px_iretI dX12_bears_87 rfl ?_
        exact ⟨by first | (simp [mBe, mPlB, *]; done) | (simp_all [mBe, mPlB]; done), rfl⟩
  · skip
    refine px_iconst (v := 0) dX12_bears_4 (by decide) ?_
    refine px_goto (tgt := 18) dX12_bears_5 (by decide) ?_
    refine px_istore_n3 dX12_bears_18 (by decide) rfl ?_
    refine px_aload_n dX12_bears_19 rfl rfl ?_
    refine mx_getA (k := 7) (j := 4) dX12_bears_20 gX12_22 (fun _ => rfl) ?_
    refine px_iload_n dX12_bears_23 rfl rfl ?_
    refine mx_iald (j := 4) (k := 7) _ dX12_bears_24 rfl rfl (by omega) (by decide) ?_
    rcases sw_1_5 (S 7 c) with H25 | H25 | H25 | H25 | H25 | H25
    · refine px_tableIn (off := 35) (tgt := 60) dX12_bears_25 (by rw [H25]; decide) (by rw [H25]; decide) (by rw [H25]; rfl) (by decide) ?_
      refine px_iload_n dX12_bears_60 rfl rfl ?_
      refine px_aload_n dX12_bears_61 rfl rfl ?_
      refine mx_getA (k := 9) (j := 6) dX12_bears_62 gX12_28 (fun _ => rfl) ?_
      refine px_iload_n dX12_bears_65 rfl rfl ?_
      refine mx_iald (j := 6) (k := 9) _ dX12_bears_66 rfl rfl (by omega) (by decide) ?_
      refine px_iadd dX12_bears_67 ?_
      refine px_iretI dX12_bears_68 rfl ?_
      exact ⟨by first | (simp [mBe, mPlB, *]; done) | (simp_all [mBe, mPlB]; done), rfl⟩
    · refine px_tableIn (off := 44) (tgt := 69) dX12_bears_25 (by rw [H25]; decide) (by rw [H25]; decide) (by rw [H25]; rfl) (by decide) ?_
      refine px_iload_n dX12_bears_69 rfl rfl ?_
      refine px_iconst (v := 1) dX12_bears_70 (by decide) ?_
      refine px_iadd dX12_bears_71 ?_
      refine px_iretI dX12_bears_72 rfl ?_
      exact ⟨by first | (simp [mBe, mPlB, *]; done) | (simp_all [mBe, mPlB]; done), rfl⟩
    · refine px_tableIn (off := 61) (tgt := 86) dX12_bears_25 (by rw [H25]; decide) (by rw [H25]; decide) (by rw [H25]; rfl) (by decide) ?_
      refine px_iload_n dX12_bears_86 rfl rfl ?_
      refine px_iretI dX12_bears_87 rfl ?_
      exact ⟨by first | (simp [mBe, mPlB, *]; done) | (simp_all [mBe, mPlB]; done), rfl⟩
    · refine px_tableIn (off := 48) (tgt := 73) dX12_bears_25 (by rw [H25]; decide) (by rw [H25]; decide) (by rw [H25]; rfl) (by decide) ?_
      refine px_iload_n dX12_bears_73 rfl rfl ?_
      refine px_aload_n dX12_bears_74 rfl rfl ?_
      refine mx_getA (k := 9) (j := 6) dX12_bears_75 gX12_28 (fun _ => rfl) ?_
      refine px_iload_n dX12_bears_78 rfl rfl ?_
      refine mx_iald (j := 6) (k := 9) _ dX12_bears_79 rfl rfl (by omega) (by decide) ?_
      refine px_iadd dX12_bears_80 ?_
      refine px_iconst (v := 2) dX12_bears_81 (by decide) ?_
      refine px_idiv dX12_bears_82 (by decide) ?_
      refine px_iretI dX12_bears_83 rfl ?_
      exact ⟨by first | (simp [mBe, mPlB, *]; done) | (simp_all [mBe, mPlB]; done), rfl⟩
    · refine px_tableIn (off := 59) (tgt := 84) dX12_bears_25 (by rw [H25]; decide) (by rw [H25]; decide) (by rw [H25]; rfl) (by decide) ?_
      refine px_iload_n dX12_bears_84 rfl rfl ?_
      refine px_iretI dX12_bears_85 rfl ?_
      exact ⟨by first | (simp [mBe, mPlB, *]; done) | (simp_all [mBe, mPlB]; done), rfl⟩
    · refine px_tableOut (tgt := 86) dX12_bears_25 H25 (by decide) ?_
      have N25_1 : ¬ S 7 c = 1 := by intro e9; rw [e9] at H25; revert H25; decide
      have N25_2 : ¬ S 7 c = 2 := by intro e9; rw [e9] at H25; revert H25; decide
      have N25_3 : ¬ S 7 c = 3 := by intro e9; rw [e9] at H25; revert H25; decide
      have N25_4 : ¬ S 7 c = 4 := by intro e9; rw [e9] at H25; revert H25; decide
      have N25_5 : ¬ S 7 c = 5 := by intro e9; rw [e9] at H25; revert H25; decide
      refine px_iload_n dX12_bears_86 rfl rfl ?_
      refine px_iretI dX12_bears_87 rfl ?_
      exact ⟨by first | (simp [mBe, mPlB, *]; done) | (simp_all [mBe, mPlB]; done), rfl⟩
set_option maxHeartbeats 4000000 in
set_option maxRecDepth 100000 in
theorem c_X12_brings (G : Gt) (m : Nat) (h0 : Ht) (S : MS) (c : Nat) (hc : c < 8) : PC G (MPic G m h0) 1 Y12_brings [.ref m, .int (nI c)] S 0 0 (ri (fun x S' => x = mBr S c ∧ S' = S)) := by
  refine pc_of (ls := [some (.ref m), some (.int (nI c))]) (by decide +kernel) rfl (Nat.le_of_ble_eq_true rfl) ?_
  refine px_aload_n dX12_brings_0 rfl rfl ?_
  refine mx_getA (k := 7) (j := 4) dX12_brings_1 gX12_22 (fun _ => rfl) ?_
  refine px_iload_n dX12_brings_4 rfl rfl ?_
  refine mx_iald (j := 4) (k := 7) _ dX12_brings_5 rfl rfl (by omega) (by decide) ?_
  rcases sw_1_5 (S 7 c) with H6 | H6 | H6 | H6 | H6 | H6
  · refine px_tableIn (off := 34) (tgt := 40) dX12_brings_6 (by rw [H6]; decide) (by rw [H6]; decide) (by rw [H6]; rfl) (by decide) ?_
    refine px_aload_n dX12_brings_40 rfl rfl ?_
    refine mx_getA (k := 10) (j := 7) dX12_brings_41 gX12_31 (fun _ => rfl) ?_
    refine px_iload_n dX12_brings_44 rfl rfl ?_
    refine mx_iald (j := 7) (k := 10) _ dX12_brings_45 rfl rfl (by omega) (by decide) ?_
    refine px_aload_n dX12_brings_46 rfl rfl ?_
    refine mx_getA (k := 9) (j := 6) dX12_brings_47 gX12_28 (fun _ => rfl) ?_
    refine px_iload_n dX12_brings_50 rfl rfl ?_
    refine mx_iald (j := 6) (k := 9) _ dX12_brings_51 rfl rfl (by omega) (by decide) ?_
    refine px_isub dX12_brings_52 ?_
    refine px_iretI dX12_brings_53 rfl ?_
    exact ⟨by first | (simp [mBr, *]; done) | (simp_all [mBr]; done), rfl⟩
  · refine px_tableIn (off := 78) (tgt := 84) dX12_brings_6 (by rw [H6]; decide) (by rw [H6]; decide) (by rw [H6]; rfl) (by decide) ?_
    refine px_aload_n dX12_brings_84 rfl rfl ?_
    refine mx_getA (k := 10) (j := 7) dX12_brings_85 gX12_31 (fun _ => rfl) ?_
    refine px_iload_n dX12_brings_88 rfl rfl ?_
    refine mx_iald (j := 7) (k := 10) _ dX12_brings_89 rfl rfl (by omega) (by decide) ?_
    refine px_iretI dX12_brings_90 rfl ?_
    exact ⟨by first | (simp [mBr, *]; done) | (simp_all [mBr]; done), rfl⟩
  · refine px_tableIn (off := 78) (tgt := 84) dX12_brings_6 (by rw [H6]; decide) (by rw [H6]; decide) (by rw [H6]; rfl) (by decide) ?_
    refine px_aload_n dX12_brings_84 rfl rfl ?_
    refine mx_getA (k := 10) (j := 7) dX12_brings_85 gX12_31 (fun _ => rfl) ?_
    refine px_iload_n dX12_brings_88 rfl rfl ?_
    refine mx_iald (j := 7) (k := 10) _ dX12_brings_89 rfl rfl (by omega) (by decide) ?_
    refine px_iretI dX12_brings_90 rfl ?_
    exact ⟨by first | (simp [mBr, *]; done) | (simp_all [mBr]; done), rfl⟩
  · refine px_tableIn (off := 48) (tgt := 54) dX12_brings_6 (by rw [H6]; decide) (by rw [H6]; decide) (by rw [H6]; rfl) (by decide) ?_
    refine px_iconst (v := 2) dX12_brings_54 (by decide) ?_
    refine px_aload_n dX12_brings_55 rfl rfl ?_
    refine mx_getA (k := 10) (j := 7) dX12_brings_56 gX12_31 (fun _ => rfl) ?_
    refine px_iload_n dX12_brings_59 rfl rfl ?_
    refine mx_iald (j := 7) (k := 10) _ dX12_brings_60 rfl rfl (by omega) (by decide) ?_
    refine px_aload_n dX12_brings_61 rfl rfl ?_
    refine mx_getA (k := 9) (j := 6) dX12_brings_62 gX12_28 (fun _ => rfl) ?_
    refine px_iload_n dX12_brings_65 rfl rfl ?_
    refine mx_iald (j := 6) (k := 9) _ dX12_brings_66 rfl rfl (by omega) (by decide) ?_
    refine px_isub dX12_brings_67 ?_
    refine px_imul dX12_brings_68 ?_
    refine px_iretI dX12_brings_69 rfl ?_
    exact ⟨by first | (simp [mBr, *]; done) | (simp_all [mBr]; done), rfl⟩
  · refine px_tableIn (off := 64) (tgt := 70) dX12_brings_6 (by rw [H6]; decide) (by rw [H6]; decide) (by rw [H6]; rfl) (by decide) ?_
    refine px_aload_n dX12_brings_70 rfl rfl ?_
    refine mx_getA (k := 10) (j := 7) dX12_brings_71 gX12_31 (fun _ => rfl) ?_
    refine px_iload_n dX12_brings_74 rfl rfl ?_
    refine mx_iald (j := 7) (k := 10) _ dX12_brings_75 rfl rfl (by omega) (by decide) ?_
    refine px_aload_n dX12_brings_76 rfl rfl ?_
    refine mx_getA (k := 9) (j := 6) dX12_brings_77 gX12_28 (fun _ => rfl) ?_
    refine px_iload_n dX12_brings_80 rfl rfl ?_
    refine mx_iald (j := 6) (k := 9) _ dX12_brings_81 rfl rfl (by omega) (by decide) ?_
    refine px_iadd dX12_brings_82 ?_
    refine px_iretI dX12_brings_83 rfl ?_
    exact ⟨by first | (simp [mBr, *]; done) | (simp_all [mBr]; done), rfl⟩
  · refine px_tableOut (tgt := 84) dX12_brings_6 H6 (by decide) ?_
    have N6_1 : ¬ S 7 c = 1 := by intro e9; rw [e9] at H6; revert H6; decide
    have N6_2 : ¬ S 7 c = 2 := by intro e9; rw [e9] at H6; revert H6; decide
    have N6_3 : ¬ S 7 c = 3 := by intro e9; rw [e9] at H6; revert H6; decide
    have N6_4 : ¬ S 7 c = 4 := by intro e9; rw [e9] at H6; revert H6; decide
    have N6_5 : ¬ S 7 c = 5 := by intro e9; rw [e9] at H6; revert H6; decide
    refine px_aload_n dX12_brings_84 rfl rfl ?_
    refine mx_getA (k := 10) (j := 7) dX12_brings_85 gX12_31 (fun _ => rfl) ?_
    refine px_iload_n dX12_brings_88 rfl rfl ?_
    refine mx_iald (j := 7) (k := 10) _ dX12_brings_89 rfl rfl (by omega) (by decide) ?_
    refine px_iretI dX12_brings_90 rfl ?_
    exact ⟨by first | (simp [mBr, *]; done) | (simp_all [mBr]; done), rfl⟩
set_option maxHeartbeats 4000000 in
set_option maxRecDepth 100000 in
theorem lp_takesAll (G : Gt) (m : Nat) (h0 : Ht) (S : MS) (c : Nat) (hc : c < 8) : ∀ (kk : Nat) (p : Nat), p ≤ 5 → 6 ≤ p + kk → PX G (MPic G m h0) 2 Y12_takesAll 4 [some (.ref m), some (.int (nI c)), some (.int (mTkS S c p)), some (.int (nI p))] [] S 0 0 (ri (fun x S' => x = mTkS S c 5 ∧ S' = S)) := by
  intro kk
  induction kk with
  | zero => intro p h1 h2; omega
  | succ kk ih =>
    intro p h1 h2
    refine px_iload_n dX12_takesAll_4 rfl rfl ?_
    refine px_iconst (v := 5) dX12_takesAll_5 (by decide) ?_
    refine px_icmp_ge (tgt := 24) dX12_takesAll_6 (by decide) (fun H6 => ?_) (fun H6 => ?_)
    · skip
      have e5 : p = 5 := by have := ge_n (a := p) (b := 5) (by omega) (by omega) H6; omega
      subst e5
      refine px_iload_n dX12_takesAll_24 rfl rfl ?_
      refine px_iretI dX12_takesAll_25 rfl ?_
      exact ⟨rfl, rfl⟩
    · skip
      have l5 : p < 5 := lt_n (a := p) (b := 5) (by omega) (by omega) H6
      refine px_iload_n dX12_takesAll_9 rfl rfl ?_
      refine px_aload_n dX12_takesAll_10 rfl rfl ?_
      refine px_iload_n dX12_takesAll_11 rfl rfl ?_
      refine px_iload_n dX12_takesAll_12 rfl rfl ?_
      refine mx_callI2 dX12_takesAll_13 lX12_124 rfl (c_X12_takes G m h0 S c (nI p) hc) (by decide) (Nat.le_of_ble_eq_true rfl) (fun x13 S13 Q13 => ?_)
      obtain ⟨rfl, e13⟩ := Q13
      obtain rfl := e13.symm
      refine px_iadd dX12_takesAll_16 ?_
      refine px_istore_n2 dX12_takesAll_17 (by decide) rfl ?_
      refine px_iinc_3 (v := 1) dX12_takesAll_18 (by decide) (by decide) rfl ?_
      refine px_goto (tgt := 4) dX12_takesAll_21 (by decide) ?_
      rw [nI_1]
      exact ih (p + 1) (by omega) (by omega)
set_option maxHeartbeats 4000000 in
set_option maxRecDepth 100000 in
theorem c_X12_takesAll (G : Gt) (m : Nat) (h0 : Ht) (S : MS) (c : Nat) (hc : c < 8) : PC G (MPic G m h0) 2 Y12_takesAll [.ref m, .int (nI c)] S 0 0 (ri (fun x S' => x = mTkS S c 5 ∧ S' = S)) := by
  refine pc_of (ls := [some (.ref m), some (.int (nI c)), none, none]) (by decide +kernel) rfl (Nat.le_of_ble_eq_true rfl) ?_
  refine px_iconst (v := 0) dX12_takesAll_0 (by decide) ?_
  refine px_istore_n2 dX12_takesAll_1 (by decide) rfl ?_
  refine px_iconst (v := 0) dX12_takesAll_2 (by decide) ?_
  refine px_istore_n3 dX12_takesAll_3 (by decide) rfl ?_
  exact lp_takesAll G m h0 S c hc 6 0 (by omega) (by omega)
