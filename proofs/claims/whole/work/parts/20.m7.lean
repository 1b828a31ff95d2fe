/-! THE REFERENCE: what the scratch fields don't touch; seen, mayMeet, range, told, count -/
theorem fr2 {S T : MS} (h : fr [28, 29] S T) : fr scr S T := h.mono (by decide)
section Cg
variable {S T : MS}
theorem mTk_c {c : Nat} {p : Int32} (hf : fr scr S T) : mTk T c p = mTk S c p := by unfold mTk mPl; rw [hf 7 (by decide), hf 8 (by decide), hf 9 (by decide)]
theorem mTkS_c {c : Nat} (hf : fr scr S T) : ∀ n, mTkS T c n = mTkS S c n
  | 0 => rfl
  | n + 1 => by rw [mTkS, mTkS, mTkS_c hf n, mTk_c hf]
theorem mBe_c {c : Nat} {q : Int32} (hf : fr scr S T) : mBe T c q = mBe S c q := by unfold mBe; rw [hf 7 (by decide), hf 9 (by decide)]
theorem mBr_c {c : Nat} (hf : fr scr S T) : mBr T c = mBr S c := by unfold mBr; rw [hf 7 (by decide), hf 9 (by decide), hf 10 (by decide)]
theorem mSh_c {h : Nat} (hf : fr scr S T) : mSh T h = mSh S h := by unfold mSh; rw [hf 3 (by decide), hf 4 (by decide), hf 5 (by decide)]
theorem tv_c {w : Nat} {fc : Nat → Int32} (hf : fr scr S T) : tv T w fc = tv S w fc := tv_go hf (by decide) (by decide) (by decide) (by decide)
theorem mBear_c {c : Nat} {q : Int32} (hf : fr scr S T) : mBear T c q = mBear S c q := by unfold mBear; rw [tv_c hf, mTk_c hf, mTk_c hf, mBe_c hf, hf 8 (by decide), hf 9 (by decide)]
theorem mKeep_c {c : Nat} (hf : fr scr S T) : mKeep T c = mKeep S c := by unfold mKeep; rw [tv_c hf, mTkS_c hf, hf 8 (by decide), hf 9 (by decide)]
theorem mSeen_c {a b : Nat} (hf : fr scr S T) : mSeen T a b = mSeen S a b := by unfold mSeen; rw [tv_c hf, mSh_c hf, mSh_c hf, hf 2 (by decide), hf 4 (by decide)]
end Cg
/-- hanks, their vats, the text in force -/
def HI (S : MS) (n : Nat) : Prop := S 1 0 = nI n ∧ n ≤ 6 ∧ (∀ i, i < 6 → ∃ v, v < 9 ∧ S 4 i = nI v) ∧ TF S
theorem HI.go {S T : MS} {n : Nat} (h : HI S n) (hf : fr scr S T) : HI T n := ⟨by rw [hf 1 (by decide)]; exact h.1, h.2.1, by rw [hf 4 (by decide)]; exact h.2.2.1, h.2.2.2.go hf (by decide) (by decide) (by decide) (by decide)⟩
theorem c_seen (G : Gt) (m : Nat) (h0 : Ht) (S T : MS) (n a b : Nat) (hI : HI S n) (hf : fr scr S T) (ha : a < n) (hb : b < n) : PC G (MPic G m h0) 3 Y12_seenOf [.ref m, .int (nI a), .int (nI b)] T 0 0 (ri (fun x S' => x = mSeen S a b ∧ fr scr S S' ∧ fr [28, 29] T S')) := by
  have h1 := hI.go hf
  have h2 := hI.2.1
  exact pc_ri (fun x S' hq => ⟨by rw [hq.1, mSeen_c hf], hf.tr (fr2 hq.2), hq.2⟩) (c_X12_seenOf G m h0 T a b (by omega) (by omega) h1.2.2.1 h1.2.2.2)
theorem c_bear (G : Gt) (m : Nat) (h0 : Ht) (S T : MS) (n c : Nat) (q : Int32) (hI : HI S n) (hf : fr scr S T) (hc : c < 8) : PC G (MPic G m h0) 3 Y12_bear [.ref m, .int (nI c), .int q] T 0 0 (ri (fun x S' => x = mBear S c q ∧ fr scr S S' ∧ fr [28, 29] T S')) :=
  pc_ri (fun x S' hq => ⟨by rw [hq.1, mBear_c hf], hf.tr (fr2 hq.2), hq.2⟩) (c_X12_bear G m h0 T c q hc (hI.go hf).2.2.2)
theorem c_keep (G : Gt) (m : Nat) (h0 : Ht) (S T : MS) (n c : Nat) (hI : HI S n) (hf : fr scr S T) (hc : c < 8) : PC G (MPic G m h0) 3 Y12_keep [.ref m, .int (nI c)] T 0 0 (ri (fun x S' => x = mKeep S c ∧ fr scr S S')) :=
  pc_ri (fun x S' hq => ⟨by rw [hq.1, mKeep_c hf], hf.tr (fr2 hq.2)⟩) (c_X12_keep G m h0 T c hc (hI.go hf).2.2.2)
theorem c_takes (G : Gt) (m : Nat) (h0 : Ht) (S T : MS) (c : Nat) (p : Int32) (hf : fr scr S T) (hc : c < 8) : PC G (MPic G m h0) 1 Y12_takes [.ref m, .int (nI c), .int p] T 0 0 (ri (fun x S' => x = mTk S c p ∧ S' = T)) :=
  pc_ri (fun x S' hq => ⟨by rw [hq.1, mTk_c hf], hq.2⟩) (c_X12_takes G m h0 T c p hc)
theorem c_bears (G : Gt) (m : Nat) (h0 : Ht) (S T : MS) (c : Nat) (q : Int32) (hf : fr scr S T) (hc : c < 8) : PC G (MPic G m h0) 1 Y12_bears [.ref m, .int (nI c), .int q] T 0 0 (ri (fun x S' => x = mBe S c q ∧ S' = T)) :=
  pc_ri (fun x S' hq => ⟨by rw [hq.1, mBe_c hf], hq.2⟩) (c_X12_bears G m h0 T c q hc)
def mMeet (S : MS) (c : Nat) (q : Int32) (a b : Nat) : Int32 := if a = b then 1 else if mBe S c q + mBear S c q < mSeen S a b then 0 else 1
theorem mMeet_c {S T : MS} {c a b : Nat} {q : Int32} (hf : fr scr S T) : mMeet T c q a b = mMeet S c q a b := by unfold mMeet; rw [mBe_c hf, mBear_c hf, mSeen_c hf]
set_option maxHeartbeats 4000000 in
set_option maxRecDepth 100000 in
theorem c_X12_doMeet (G : Gt) (m : Nat) (h0 : Ht) (S : MS) (n c a b : Nat) (q : Int32) (hI : HI S n) (hc : c < 8) (ha : a < n) (hb : b < n) : PC G (MPic G m h0) 4 Y12_doMeet [.ref m, .int (nI c), .int q, .int (nI a), .int (nI b)] S 0 0 (ri (fun x S' => x = mMeet S c q a b ∧ fr [28, 29] S S')) := by
  have h6 := hI.2.1
  refine pc_of (ls := [some (.ref m), some (.int (nI c)), some (.int q), some (.int (nI a)), some (.int (nI b))]) (by decide +kernel) rfl (Nat.le_of_ble_eq_true rfl) ?_
  refine px_iload_n dX12_doMeet_0 rfl rfl ?_
  refine px_iload dX12_doMeet_1 rfl ?_
  refine px_icmp_eq (tgt := 29) dX12_doMeet_3 (by decide) (fun H3 => ?_) (fun H3 => ?_)
  · skip
    skip
    have e3 := eq_n (by omega) (by omega) H3
    refine px_iconst (v := 1) dX12_doMeet_29 (by decide) ?_
    refine px_goto (tgt := 34) dX12_doMeet_30 (by decide) ?_
    refine px_iretZ dX12_doMeet_34 rfl (by first | rfl | decide) ?_
    first | exact ⟨by simp [mMeet, *], fr.rf⟩ | exact ⟨by simp [mMeet, *], g22⟩
  · skip
    skip
    have e3 := ne_n (by omega) (by omega) H3
    refine px_aload_n dX12_doMeet_6 rfl rfl ?_
    refine px_iload_n dX12_doMeet_7 rfl rfl ?_
    refine px_iload dX12_doMeet_8 rfl ?_
    refine mx_callI2 dX12_doMeet_10 lX12_249 rfl (c_seen G m h0 S S n a b hI fr.rf ha hb) (by decide) (Nat.le_of_ble_eq_true rfl) (fun x10 S10 Q10 => ?_)
    obtain ⟨rfl, f10, g10⟩ := Q10
    refine px_aload_n dX12_doMeet_13 rfl rfl ?_
    refine px_iload_n dX12_doMeet_14 rfl rfl ?_
    refine px_iload_n dX12_doMeet_15 rfl rfl ?_
    refine mx_callI2 dX12_doMeet_16 lX12_130 rfl (c_bears G m h0 S S10 c q f10 hc) (by decide) (Nat.le_of_ble_eq_true rfl) (fun x16 S16 Q16 => ?_)
    obtain ⟨rfl, e16⟩ := Q16
    obtain rfl := e16.symm
    refine px_aload_n dX12_doMeet_19 rfl rfl ?_
    refine px_iload_n dX12_doMeet_20 rfl rfl ?_
    refine px_iload_n dX12_doMeet_21 rfl rfl ?_
    refine mx_callI2 dX12_doMeet_22 lX12_133 rfl (c_bear G m h0 S S10 n c q hI f10 hc) (by decide) (Nat.le_of_ble_eq_true rfl) (fun x22 S22 Q22 => ?_)
    obtain ⟨rfl, f22, g22⟩ := Q22
    have g22 := g10.tr g22
    refine px_iadd dX12_doMeet_25 ?_
    refine px_icmp_gt (tgt := 33) dX12_doMeet_26 (by decide) (fun H26 => ?_) (fun H26 => ?_)
    · skip
      refine px_iconst (v := 0) dX12_doMeet_33 (by decide) ?_
      refine px_iretZ dX12_doMeet_34 rfl (by first | rfl | decide) ?_
      first | exact ⟨by simp [mMeet, *], fr.rf⟩ | exact ⟨by simp [mMeet, *], g22⟩
    · skip
      refine px_iconst (v := 1) dX12_doMeet_29 (by decide) ?_
      refine px_goto (tgt := 34) dX12_doMeet_30 (by decide) ?_
      refine px_iretZ dX12_doMeet_34 rfl (by first | rfl | decide) ?_
      first | exact ⟨by simp [mMeet, *], fr.rf⟩ | exact ⟨by simp [mMeet, *], g22⟩
def f_seen (S : MS) (a b : Int32) : Int32 := if mHk S a = 0 ∨ mHk S b = 0 ∨ a = b then -5 else mSeen S a.toNatClampNeg b.toNatClampNeg
def f_mayMeet (S : MS) (c q two : Int32) : Int32 := if mCt S c = 0 ∨ mIn q 0 5 = 0 ∨ two < 0 ∨ mHk S (two / 100) = 0 ∨ mHk S (two - two / 100 * 100) = 0 then -2 else mMeet S c.toNatClampNeg q (two / 100).toNatClampNeg (two - two / 100 * 100).toNatClampNeg
theorem mMeet_01 (S : MS) (c : Nat) (q : Int32) (a b : Nat) : mMeet S c q a b = 0 ∨ mMeet S c q a b = 1 := by
  unfold mMeet
  split
  · exact Or.inr rfl
  · split
    · exact Or.inl rfl
    · exact Or.inr rfl
set_option maxHeartbeats 4000000 in
set_option maxRecDepth 100000 in
theorem c_X12_seen (G : Gt) (m : Nat) (h0 : Ht) (S : MS) (a b : Int32) (n : Nat) (hI : HI S n) : PC G (MPic G m h0) 4 Y12_seen [.ref m, .int a, .int b] S 0 0 (ri (fun x S' => x = f_seen S a b ∧ fr scr S S')) := by
  refine pc_of (ls := [some (.ref m), some (.int a), some (.int b)]) (by decide +kernel) rfl (Nat.le_of_ble_eq_true rfl) ?_
  refine px_aload_n dX12_seen_0 rfl rfl ?_
  refine px_iload_n dX12_seen_1 rfl rfl ?_
  refine mx_callI1 dX12_seen_2 lX12_116 rfl (c_X12_isHank G m h0 S _) (by decide) (Nat.le_of_ble_eq_true rfl) (fun x2 S2 Q2 => ?_)
  obtain ⟨rfl, e2⟩ := Q2
  obtain rfl := e2.symm
  refine px_if_eq (tgt := 30) dX12_seen_5 (by decide) (fun H5 => ?_) (fun H5 => ?_)
  · skip
    refine px_bipush (v := (-5)) dX12_seen_30 (by decide) ?_
    refine px_iretI dX12_seen_32 rfl ?_
    first | exact ⟨by simp [f_seen, *], fr.rf⟩ | exact ⟨by simp [f_seen, *], f24⟩
  · skip
    refine px_aload_n dX12_seen_8 rfl rfl ?_
    refine px_iload_n dX12_seen_9 rfl rfl ?_
    refine mx_callI1 dX12_seen_10 lX12_116 rfl (c_X12_isHank G m h0 S _) (by decide) (Nat.le_of_ble_eq_true rfl) (fun x10 S10 Q10 => ?_)
    obtain ⟨rfl, e10⟩ := Q10
    obtain rfl := e10.symm
    refine px_if_eq (tgt := 30) dX12_seen_13 (by decide) (fun H13 => ?_) (fun H13 => ?_)
    · skip
      refine px_bipush (v := (-5)) dX12_seen_30 (by decide) ?_
      refine px_iretI dX12_seen_32 rfl ?_
      first | exact ⟨by simp [f_seen, *], fr.rf⟩ | exact ⟨by simp [f_seen, *], f24⟩
    · skip
      refine px_iload_n dX12_seen_16 rfl rfl ?_
      refine px_iload_n dX12_seen_17 rfl rfl ?_
      refine px_icmp_eq (tgt := 30) dX12_seen_18 (by decide) (fun H18 => ?_) (fun H18 => ?_)
      · skip
        refine px_bipush (v := (-5)) dX12_seen_30 (by decide) ?_
        refine px_iretI dX12_seen_32 rfl ?_
        first | exact ⟨by simp [f_seen, *], fr.rf⟩ | exact ⟨by simp [f_seen, *], f24⟩
      · skip
        obtain ⟨i, hi, ei, ti⟩ := hk_ix hI.1 hI.2.1 H5
        subst ei
        obtain ⟨j, hj, ej, tj⟩ := hk_ix hI.1 hI.2.1 H13
        subst ej
        refine px_aload_n dX12_seen_21 rfl rfl ?_
        refine px_iload_n dX12_seen_22 rfl rfl ?_
        refine px_iload_n dX12_seen_23 rfl rfl ?_
        refine mx_callI2 dX12_seen_24 lX12_249 rfl (c_seen G m h0 S S n i j hI fr.rf hi hj) (by decide) (Nat.le_of_ble_eq_true rfl) (fun x24 S24 Q24 => ?_)
        obtain ⟨rfl, f24, g24⟩ := Q24
        refine px_goto (tgt := 32) dX12_seen_27 (by decide) ?_
        refine px_iretI dX12_seen_32 rfl ?_
        first | exact ⟨by simp [f_seen, *], fr.rf⟩ | exact ⟨by simp [f_seen, *], f24⟩
set_option maxHeartbeats 4000000 in
set_option maxRecDepth 100000 in
theorem c_X12_mayMeet (G : Gt) (m : Nat) (h0 : Ht) (S : MS) (c q two : Int32) (n : Nat) (hI : HI S n) (cn : Nat) (hC : S 6 0 = nI cn) (hcn : cn ≤ 8) : PC G (MPic G m h0) 5 Y12_mayMeet [.ref m, .int c, .int q, .int two] S 0 0 (ri (fun x S' => x = f_mayMeet S c q two ∧ fr scr S S')) := by
  refine pc_of (ls := [some (.ref m), some (.int c), some (.int q), some (.int two)]) (by decide +kernel) rfl (Nat.le_of_ble_eq_true rfl) ?_
  refine px_aload_n dX12_mayMeet_0 rfl rfl ?_
  refine px_iload_n dX12_mayMeet_1 rfl rfl ?_
  refine mx_callI1 dX12_mayMeet_2 lX12_127 rfl (c_X12_isCoat G m h0 S _) (by decide) (Nat.le_of_ble_eq_true rfl) (fun x2 S2 Q2 => ?_)
  obtain ⟨rfl, e2⟩ := Q2
  obtain rfl := e2.symm
  refine px_if_eq (tgt := 43) dX12_mayMeet_5 (by decide) (fun H5 => ?_) (fun H5 => ?_)
  · skip
    refine px_bipush (v := (-2)) dX12_mayMeet_43 (by decide) ?_
    refine px_iretI dX12_mayMeet_45 rfl ?_
    first | exact ⟨by simp [f_mayMeet, *], fr.rf⟩ | (refine ⟨?_, fr2 f57⟩; have h9 := mMeet_01 S k q i j; simp only [f_mayMeet, H5, H14, H18, H29, H40, tk, ti, tj, or_self, if_false]; rcases h9 with h9 | h9 <;> simp_all)
  · skip
    refine px_iload_n dX12_mayMeet_8 rfl rfl ?_
    refine px_iconst (v := 0) dX12_mayMeet_9 (by decide) ?_
    refine px_iconst (v := 5) dX12_mayMeet_10 (by decide) ?_
    refine px_pure3 dX12_mayMeet_11 lX12_109 (c_X12_in G _ _ _) (by decide) (Nat.le_of_ble_eq_true rfl) ?_
    refine px_if_eq (tgt := 43) dX12_mayMeet_14 (by decide) (fun H14 => ?_) (fun H14 => ?_)
    · skip
      refine px_bipush (v := (-2)) dX12_mayMeet_43 (by decide) ?_
      refine px_iretI dX12_mayMeet_45 rfl ?_
      first | exact ⟨by simp [f_mayMeet, *], fr.rf⟩ | (refine ⟨?_, fr2 f57⟩; have h9 := mMeet_01 S k q i j; simp only [f_mayMeet, H5, H14, H18, H29, H40, tk, ti, tj, or_self, if_false]; rcases h9 with h9 | h9 <;> simp_all)
    · skip
      refine px_iload_n dX12_mayMeet_17 rfl rfl ?_
      refine px_if_lt (tgt := 43) dX12_mayMeet_18 (by decide) (fun H18 => ?_) (fun H18 => ?_)
      · skip
        refine px_bipush (v := (-2)) dX12_mayMeet_43 (by decide) ?_
        refine px_iretI dX12_mayMeet_45 rfl ?_
        first | exact ⟨by simp [f_mayMeet, *], fr.rf⟩ | (refine ⟨?_, fr2 f57⟩; have h9 := mMeet_01 S k q i j; simp only [f_mayMeet, H5, H14, H18, H29, H40, tk, ti, tj, or_self, if_false]; rcases h9 with h9 | h9 <;> simp_all)
      · skip
        refine px_aload_n dX12_mayMeet_21 rfl rfl ?_
        refine px_iload_n dX12_mayMeet_22 rfl rfl ?_
        refine px_bipush (v := 100) dX12_mayMeet_23 (by decide) ?_
        refine px_idiv dX12_mayMeet_25 (by decide) ?_
        refine mx_callI1 dX12_mayMeet_26 lX12_116 rfl (c_X12_isHank G m h0 S _) (by decide) (Nat.le_of_ble_eq_true rfl) (fun x26 S26 Q26 => ?_)
        obtain ⟨rfl, e26⟩ := Q26
        obtain rfl := e26.symm
        refine px_if_eq (tgt := 43) dX12_mayMeet_29 (by decide) (fun H29 => ?_) (fun H29 => ?_)
        · skip
          refine px_bipush (v := (-2)) dX12_mayMeet_43 (by decide) ?_
          refine px_iretI dX12_mayMeet_45 rfl ?_
          first | exact ⟨by simp [f_mayMeet, *], fr.rf⟩ | (refine ⟨?_, fr2 f57⟩; have h9 := mMeet_01 S k q i j; simp only [f_mayMeet, H5, H14, H18, H29, H40, tk, ti, tj, or_self, if_false]; rcases h9 with h9 | h9 <;> simp_all)
        · skip
          refine px_aload_n dX12_mayMeet_32 rfl rfl ?_
          refine px_iload_n dX12_mayMeet_33 rfl rfl ?_
          refine px_bipush (v := 100) dX12_mayMeet_34 (by decide) ?_
          refine px_irem dX12_mayMeet_36 (by decide) ?_
          refine mx_callI1 dX12_mayMeet_37 lX12_116 rfl (c_X12_isHank G m h0 S _) (by decide) (Nat.le_of_ble_eq_true rfl) (fun x37 S37 Q37 => ?_)
          obtain ⟨rfl, e37⟩ := Q37
          obtain rfl := e37.symm
          refine px_if_ne (tgt := 46) dX12_mayMeet_40 (by decide) (fun H40 => ?_) (fun H40 => ?_)
          · skip
            obtain ⟨k, hk, ek, tk⟩ := ct_ix hC hcn H5
            subst ek
            obtain ⟨i, hi, ei, ti⟩ := hk_ix hI.1 hI.2.1 H29
            obtain ⟨j, hj, ej, tj⟩ := hk_ix hI.1 hI.2.1 H40
            refine px_aload_n dX12_mayMeet_46 rfl rfl ?_
            refine px_iload_n dX12_mayMeet_47 rfl rfl ?_
            refine px_iload_n dX12_mayMeet_48 rfl rfl ?_
            refine px_iload_n dX12_mayMeet_49 rfl rfl ?_
            refine px_bipush (v := 100) dX12_mayMeet_50 (by decide) ?_
            refine px_idiv dX12_mayMeet_52 (by decide) ?_
            refine px_iload_n dX12_mayMeet_53 rfl rfl ?_
            refine px_bipush (v := 100) dX12_mayMeet_54 (by decide) ?_
            refine px_irem dX12_mayMeet_56 (by decide) ?_
            rw [ej, ei]
            refine mx_callI4 dX12_mayMeet_57 lX12_252 rfl (c_X12_doMeet G m h0 S n k i j q hI (by omega) hi hj) (by decide) (Nat.le_of_ble_eq_true rfl) (fun x57 S57 Q57 => ?_)
            obtain ⟨rfl, f57⟩ := Q57
            refine px_if_eq (tgt := 67) dX12_mayMeet_60 (by decide) (fun H60 => ?_) (fun H60 => ?_)
            · skip
              refine px_iconst (v := 0) dX12_mayMeet_67 (by decide) ?_
              refine px_iretI dX12_mayMeet_68 rfl ?_
              first | exact ⟨by simp [f_mayMeet, *], fr.rf⟩ | (refine ⟨?_, fr2 f57⟩; have h9 := mMeet_01 S k q i j; simp only [f_mayMeet, H5, H14, H18, H29, H40, tk, ti, tj, or_self, if_false]; rcases h9 with h9 | h9 <;> simp_all)
            · skip
              refine px_iconst (v := 1) dX12_mayMeet_63 (by decide) ?_
              refine px_goto (tgt := 68) dX12_mayMeet_64 (by decide) ?_
              refine px_iretI dX12_mayMeet_68 rfl ?_
              first | exact ⟨by simp [f_mayMeet, *], fr.rf⟩ | (refine ⟨?_, fr2 f57⟩; have h9 := mMeet_01 S k q i j; simp only [f_mayMeet, H5, H14, H18, H29, H40, tk, ti, tj, or_self, if_false]; rcases h9 with h9 | h9 <;> simp_all)
          · skip
            refine px_bipush (v := (-2)) dX12_mayMeet_43 (by decide) ?_
            refine px_iretI dX12_mayMeet_45 rfl ?_
            first | exact ⟨by simp [f_mayMeet, *], fr.rf⟩ | (refine ⟨?_, fr2 f57⟩; have h9 := mMeet_01 S k q i j; simp only [f_mayMeet, H5, H14, H18, H29, H40, tk, ti, tj, or_self, if_false]; rcases h9 with h9 | h9 <;> simp_all)
def f_told (S : MS) (c w : Int32) : Int32 := if mCt S c = 0 then -5 else if ¬ mIn w 10 14 = 0 then mTk S c.toNatClampNeg (w - 10) else if ¬ mIn w 20 25 = 0 then mBe S c.toNatClampNeg (w - 20) + mBear S c.toNatClampNeg (w - 20) else if w = 0 then S 7 c.toNatClampNeg else if w = 1 then S 8 c.toNatClampNeg else if w = 2 then S 9 c.toNatClampNeg else if w = 3 then mBr S c.toNatClampNeg else if w = 4 then mTkS S c.toNatClampNeg 5 else if w = 5 then mKeep S c.toNatClampNeg else if w = 6 then (if S 11 c.toNatClampNeg = 0 then 0 else 1) else -5
set_option maxHeartbeats 4000000 in
set_option maxRecDepth 100000 in
theorem c_X12_told (G : Gt) (m : Nat) (h0 : Ht) (S : MS) (c w : Int32) (n : Nat) (hI : HI S n) (cn : Nat) (hC : S 6 0 = nI cn) (hcn : cn ≤ 8) : PC G (MPic G m h0) 4 Y12_told [.ref m, .int c, .int w] S 0 0 (ri (fun x S' => x = f_told S c w ∧ fr scr S S')) := by
  refine pc_of (ls := [some (.ref m), some (.int c), some (.int w)]) (by decide +kernel) rfl (Nat.le_of_ble_eq_true rfl) ?_
  refine px_aload_n dX12_told_0 rfl rfl ?_
  refine px_iload_n dX12_told_1 rfl rfl ?_
  refine mx_callI1 dX12_told_2 lX12_127 rfl (c_X12_isCoat G m h0 S _) (by decide) (Nat.le_of_ble_eq_true rfl) (fun x2 S2 Q2 => ?_)
  obtain ⟨rfl, e2⟩ := Q2
  obtain rfl := e2.symm
  refine px_if_ne (tgt := 11) dX12_told_5 (by decide) (fun H5 => ?_) (fun H5 => ?_)
  · skip
    obtain ⟨k, hk, ek, tk⟩ := ct_ix hC hcn H5
    subst ek
    refine px_iload_n dX12_told_11 rfl rfl ?_
    refine px_bipush (v := 10) dX12_told_12 (by decide) ?_
    refine px_bipush (v := 14) dX12_told_14 (by decide) ?_
    refine px_pure3 dX12_told_16 lX12_109 (c_X12_in G _ _ _) (by decide) (Nat.le_of_ble_eq_true rfl) ?_
    refine px_if_eq (tgt := 32) dX12_told_19 (by decide) (fun H19 => ?_) (fun H19 => ?_)
    · skip
      refine px_iload_n dX12_told_32 rfl rfl ?_
      refine px_bipush (v := 20) dX12_told_33 (by decide) ?_
      refine px_bipush (v := 25) dX12_told_35 (by decide) ?_
      refine px_pure3 dX12_told_37 lX12_109 (c_X12_in G _ _ _) (by decide) (Nat.le_of_ble_eq_true rfl) ?_
      refine px_if_eq (tgt := 63) dX12_told_40 (by decide) (fun H40 => ?_) (fun H40 => ?_)
      · skip
        refine px_iload_n dX12_told_63 rfl rfl ?_
        rcases sw_0_6 (w) with H64 | H64 | H64 | H64 | H64 | H64 | H64 | H64
        · refine px_tableIn (off := 44) (tgt := 108) dX12_told_64 (by rw [H64]; decide) (by rw [H64]; decide) (by rw [H64]; rfl) (by decide) ?_
          subst H64
          refine px_aload_n dX12_told_108 rfl rfl ?_
          refine mx_getA (k := 7) (j := 4) dX12_told_109 gX12_22 (fun _ => rfl) ?_
          refine px_iload_n dX12_told_112 rfl rfl ?_
          refine mx_iald (j := 4) (k := 7) _ dX12_told_113 rfl rfl (by omega) (by decide) ?_
          refine px_iretI dX12_told_114 rfl ?_
          first | (exact ⟨by simp [f_told, *], fr.rf⟩) | (exact ⟨by simp [f_told, *], f58⟩) | (exact ⟨by simp [f_told, *], f143⟩)
        · refine px_tableIn (off := 51) (tgt := 115) dX12_told_64 (by rw [H64]; decide) (by rw [H64]; decide) (by rw [H64]; rfl) (by decide) ?_
          subst H64
          refine px_aload_n dX12_told_115 rfl rfl ?_
          refine mx_getA (k := 8) (j := 5) dX12_told_116 gX12_25 (fun _ => rfl) ?_
          refine px_iload_n dX12_told_119 rfl rfl ?_
          refine mx_iald (j := 5) (k := 8) _ dX12_told_120 rfl rfl (by omega) (by decide) ?_
          refine px_iretI dX12_told_121 rfl ?_
          first | (exact ⟨by simp [f_told, *], fr.rf⟩) | (exact ⟨by simp [f_told, *], f58⟩) | (exact ⟨by simp [f_told, *], f143⟩)
        · refine px_tableIn (off := 58) (tgt := 122) dX12_told_64 (by rw [H64]; decide) (by rw [H64]; decide) (by rw [H64]; rfl) (by decide) ?_
          subst H64
          refine px_aload_n dX12_told_122 rfl rfl ?_
          refine mx_getA (k := 9) (j := 6) dX12_told_123 gX12_28 (fun _ => rfl) ?_
          refine px_iload_n dX12_told_126 rfl rfl ?_
          refine mx_iald (j := 6) (k := 9) _ dX12_told_127 rfl rfl (by omega) (by decide) ?_
          refine px_iretI dX12_told_128 rfl ?_
          first | (exact ⟨by simp [f_told, *], fr.rf⟩) | (exact ⟨by simp [f_told, *], f58⟩) | (exact ⟨by simp [f_told, *], f143⟩)
        · refine px_tableIn (off := 65) (tgt := 129) dX12_told_64 (by rw [H64]; decide) (by rw [H64]; decide) (by rw [H64]; rfl) (by decide) ?_
          subst H64
          refine px_aload_n dX12_told_129 rfl rfl ?_
          refine px_iload_n dX12_told_130 rfl rfl ?_
          refine mx_callI1 dX12_told_131 lX12_136 rfl (c_X12_brings G m h0 S k (by omega)) (by decide) (Nat.le_of_ble_eq_true rfl) (fun x131 S131 Q131 => ?_)
          obtain ⟨rfl, e131⟩ := Q131
          obtain rfl := e131.symm
          refine px_iretI dX12_told_134 rfl ?_
          first | (exact ⟨by simp [f_told, *], fr.rf⟩) | (exact ⟨by simp [f_told, *], f58⟩) | (exact ⟨by simp [f_told, *], f143⟩)
        · refine px_tableIn (off := 71) (tgt := 135) dX12_told_64 (by rw [H64]; decide) (by rw [H64]; decide) (by rw [H64]; rfl) (by decide) ?_
          subst H64
          refine px_aload_n dX12_told_135 rfl rfl ?_
          refine px_iload_n dX12_told_136 rfl rfl ?_
          refine mx_callI1 dX12_told_137 lX12_140 rfl (c_X12_takesAll G m h0 S k (by omega)) (by decide) (Nat.le_of_ble_eq_true rfl) (fun x137 S137 Q137 => ?_)
          obtain ⟨rfl, e137⟩ := Q137
          obtain rfl := e137.symm
          refine px_iretI dX12_told_140 rfl ?_
          first | (exact ⟨by simp [f_told, *], fr.rf⟩) | (exact ⟨by simp [f_told, *], f58⟩) | (exact ⟨by simp [f_told, *], f143⟩)
        · refine px_tableIn (off := 77) (tgt := 141) dX12_told_64 (by rw [H64]; decide) (by rw [H64]; decide) (by rw [H64]; rfl) (by decide) ?_
          subst H64
          refine px_aload_n dX12_told_141 rfl rfl ?_
          refine px_iload_n dX12_told_142 rfl rfl ?_
          refine mx_callI1 dX12_told_143 lX12_143 rfl (c_keep G m h0 S S n k hI fr.rf (by omega)) (by decide) (Nat.le_of_ble_eq_true rfl) (fun x143 S143 Q143 => ?_)
          obtain ⟨rfl, f143⟩ := Q143
          refine px_iretI dX12_told_146 rfl ?_
          first | (exact ⟨by simp [f_told, *], fr.rf⟩) | (exact ⟨by simp [f_told, *], f58⟩) | (exact ⟨by simp [f_told, *], f143⟩)
        · refine px_tableIn (off := 83) (tgt := 147) dX12_told_64 (by rw [H64]; decide) (by rw [H64]; decide) (by rw [H64]; rfl) (by decide) ?_
          subst H64
          refine px_aload_n dX12_told_147 rfl rfl ?_
          refine mx_getA (k := 11) (j := 8) dX12_told_148 gX12_34 (fun _ => rfl) ?_
          refine px_iload_n dX12_told_151 rfl rfl ?_
          refine mx_zald (j := 8) (k := 11) _ dX12_told_152 rfl rfl (by omega) (by decide) ?_
          refine px_if_eq (tgt := 160) dX12_told_153 (by decide) (fun H153 => ?_) (fun H153 => ?_)
          · skip
            refine px_iconst (v := 0) dX12_told_160 (by decide) ?_
            refine px_iretI dX12_told_161 rfl ?_
            first | (exact ⟨by simp [f_told, *], fr.rf⟩) | (exact ⟨by simp [f_told, *], f58⟩) | (exact ⟨by simp [f_told, *], f143⟩)
          · skip
            refine px_iconst (v := 1) dX12_told_156 (by decide) ?_
            refine px_goto (tgt := 161) dX12_told_157 (by decide) ?_
            refine px_iretI dX12_told_161 rfl ?_
            first | (exact ⟨by simp [f_told, *], fr.rf⟩) | (exact ⟨by simp [f_told, *], f58⟩) | (exact ⟨by simp [f_told, *], f143⟩)
        · refine px_tableOut (tgt := 162) dX12_told_64 H64 (by decide) ?_
          have N64_0 : ¬ w = 0 := by intro e9; rw [e9] at H64; revert H64; decide
          have N64_1 : ¬ w = 1 := by intro e9; rw [e9] at H64; revert H64; decide
          have N64_2 : ¬ w = 2 := by intro e9; rw [e9] at H64; revert H64; decide
          have N64_3 : ¬ w = 3 := by intro e9; rw [e9] at H64; revert H64; decide
          have N64_4 : ¬ w = 4 := by intro e9; rw [e9] at H64; revert H64; decide
          have N64_5 : ¬ w = 5 := by intro e9; rw [e9] at H64; revert H64; decide
          have N64_6 : ¬ w = 6 := by intro e9; rw [e9] at H64; revert H64; decide
          refine px_bipush (v := (-5)) dX12_told_162 (by decide) ?_
          refine px_iretI dX12_told_164 rfl ?_
          first | (exact ⟨by simp [f_told, *], fr.rf⟩) | (exact ⟨by simp [f_told, *], f58⟩) | (exact ⟨by simp [f_told, *], f143⟩)
      · skip
        refine px_aload_n dX12_told_43 rfl rfl ?_
        refine px_iload_n dX12_told_44 rfl rfl ?_
        refine px_iload_n dX12_told_45 rfl rfl ?_
        refine px_bipush (v := 20) dX12_told_46 (by decide) ?_
        refine px_isub dX12_told_48 ?_
        refine mx_callI2 dX12_told_49 lX12_130 rfl (c_X12_bears G m h0 S k _ (by omega)) (by decide) (Nat.le_of_ble_eq_true rfl) (fun x49 S49 Q49 => ?_)
        obtain ⟨rfl, e49⟩ := Q49
        obtain rfl := e49.symm
        refine px_aload_n dX12_told_52 rfl rfl ?_
        refine px_iload_n dX12_told_53 rfl rfl ?_
        refine px_iload_n dX12_told_54 rfl rfl ?_
        refine px_bipush (v := 20) dX12_told_55 (by decide) ?_
        refine px_isub dX12_told_57 ?_
        refine mx_callI2 dX12_told_58 lX12_133 rfl (c_bear G m h0 S S n k _ hI fr.rf (by omega)) (by decide) (Nat.le_of_ble_eq_true rfl) (fun x58 S58 Q58 => ?_)
        obtain ⟨rfl, f58, g58⟩ := Q58
        refine px_iadd dX12_told_61 ?_
        refine px_iretI dX12_told_62 rfl ?_
        first | (exact ⟨by simp [f_told, *], fr.rf⟩) | (exact ⟨by simp [f_told, *], f58⟩) | (exact ⟨by simp [f_told, *], f143⟩)
    · skip
      refine px_aload_n dX12_told_22 rfl rfl ?_
      refine px_iload_n dX12_told_23 rfl rfl ?_
      refine px_iload_n dX12_told_24 rfl rfl ?_
      refine px_bipush (v := 10) dX12_told_25 (by decide) ?_
      refine px_isub dX12_told_27 ?_
      refine mx_callI2 dX12_told_28 lX12_124 rfl (c_X12_takes G m h0 S k _ (by omega)) (by decide) (Nat.le_of_ble_eq_true rfl) (fun x28 S28 Q28 => ?_)
      obtain ⟨rfl, e28⟩ := Q28
      obtain rfl := e28.symm
      refine px_iretI dX12_told_31 rfl ?_
      first | (exact ⟨by simp [f_told, *], fr.rf⟩) | (exact ⟨by simp [f_told, *], f58⟩) | (exact ⟨by simp [f_told, *], f143⟩)
  · skip
    refine px_bipush (v := (-5)) dX12_told_8 (by decide) ?_
    refine px_iretI dX12_told_10 rfl ?_
    first | (exact ⟨by simp [f_told, *], fr.rf⟩) | (exact ⟨by simp [f_told, *], f58⟩) | (exact ⟨by simp [f_told, *], f143⟩)
def mBit (x : Int32) (a : Nat) : Int32 := (x >>> (nI a &&& 31)) &&& 1
def rIn (S : MS) (z : Int32) (a : Nat) (acc : Int32) : Nat → Int32
  | 0 => acc
  | k + 1 => if mBit z a = 0 ∨ mBit z (a + 1 + k) = 0 then rIn S z a acc k else if rIn S z a acc k < mSeen S a (a + 1 + k) then mSeen S a (a + 1 + k) else rIn S z a acc k
def rOut (S : MS) (z : Int32) (n : Nat) : Nat → Int32
  | 0 => -1
  | a + 1 => rIn S z a (rOut S z n a) (n - (a + 1))
def f_range (S : MS) (z : Int32) : Int32 := if z < 0 ∨ ¬ z >>> (S 1 0 &&& 31) = 0 then -2 else rOut S z (hN S) (hN S)
theorem nI_sub1 (a k : Nat) : nI (a + 1 + k) + 1 = nI (a + 1 + (k + 1)) := by rw [nI_1]; rfl
set_option maxHeartbeats 4000000 in
set_option maxRecDepth 100000 in
theorem lp_range2 (G : Gt) (m : Nat) (h0 : Ht) (S : MS) (n a : Nat) (z acc : Int32) (hI : HI S n) (ha : a < n) (Post : Option Value → MS → Prop) (K : ∀ T : MS, fr scr S T → PX G (MPic G m h0) 4 Y12_range 86 [some (.ref m), some (.int z), some (.int (rIn S z a acc (n - (a + 1)))), some (.int (nI a)), none, none] [] T 0 0 Post) : ∀ (kk k : Nat) (T : MS), fr scr S T → k ≤ (n - (a + 1)) → (n - (a + 1)) + 1 ≤ k + kk → PX G (MPic G m h0) 4 Y12_range 33 [some (.ref m), some (.int z), some (.int (rIn S z a acc k)), some (.int (nI a)), some (.int (nI (a + 1 + k))), none] [] T 0 0 Post := by
  have h6 := hI.2.1
  intro kk
  induction kk with
  | zero => intro k T hf h1 h2; omega
  | succ kk ih =>
    intro k T hf h1 h2
    refine px_iload dX12_range_33 rfl ?_
    refine px_aload_n dX12_range_35 rfl rfl ?_
    refine mx_getI (k := 1) dX12_range_36 gX12_106 (fun _ => rfl) ?_
    refine px_icmp_ge (tgt := 86) dX12_range_39 (by decide) (fun H39 => ?_) (fun H39 => ?_)
    · skip
      rw [(hI.go hf).1] at H39
      have eN : k = (n - (a + 1)) := by have := ge_n (a := a + 1 + k) (b := n) (by omega) (by omega) H39; omega
      rw [eN]
      exact px_lw (ls' := [some (.ref m), some (.int z), some (.int (rIn S z a acc (n - (a + 1)))), some (.int (nI a)), none, none]) (by simp [LW]) (K T hf)
    · skip
      rw [(hI.go hf).1] at H39
      have lN : a + 1 + k < n := lt_n (a := a + 1 + k) (b := n) (by omega) (by omega) H39
      refine px_iload_n dX12_range_42 rfl rfl ?_
      refine px_iload_n dX12_range_43 rfl rfl ?_
      refine px_ishr dX12_range_44 ?_
      refine px_iconst (v := 1) dX12_range_45 (by decide) ?_
      refine px_iand dX12_range_46 ?_
      refine px_if_eq (tgt := 80) dX12_range_47 (by decide) (fun H47 => ?_) (fun H47 => ?_)
      · skip
        rw [show (z >>> (nI a &&& 31)) &&& 1 = mBit z a from rfl] at H47
        refine px_iinc_4 (v := 1) dX12_range_80 (by decide) (by decide) rfl ?_
        refine px_goto (tgt := 33) dX12_range_83 (by decide) ?_
        refine px_lw (ls' := [some (.ref m), some (.int z), some (.int (rIn S z a acc (k + 1))), some (.int (nI a)), some (.int (nI (a + 1 + (k + 1)))), none]) ?_ (ih (k + 1) _ (by assumption) (by omega) (by omega))
        first
        | (simp [LW, rIn, nI_1, *]; done)
        | (simp [LW, rIn, nI_1, *]; rfl)
      · skip
        rw [show (z >>> (nI a &&& 31)) &&& 1 = mBit z a from rfl] at H47
        refine px_iload_n dX12_range_50 rfl rfl ?_
        refine px_iload dX12_range_51 rfl ?_
        refine px_ishr dX12_range_53 ?_
        refine px_iconst (v := 1) dX12_range_54 (by decide) ?_
        refine px_iand dX12_range_55 ?_
        refine px_if_ne (tgt := 62) dX12_range_56 (by decide) (fun H56 => ?_) (fun H56 => ?_)
        · skip
          rw [show (z >>> (nI (a + 1 + k) &&& 31)) &&& 1 = mBit z (a + 1 + k) from rfl] at H56
          refine px_aload_n dX12_range_62 rfl rfl ?_
          refine px_iload_n dX12_range_63 rfl rfl ?_
          refine px_iload dX12_range_64 rfl ?_
          refine mx_callI2 dX12_range_66 lX12_249 rfl (c_seen G m h0 S T n a (a + 1 + k) hI hf ha lN) (by decide) (Nat.le_of_ble_eq_true rfl) (fun x66 S66 Q66 => ?_)
          obtain ⟨rfl, f66, g66⟩ := Q66
          refine px_istore_5 dX12_range_69 (by decide) rfl ?_
          refine px_iload dX12_range_71 rfl ?_
          refine px_iload_n dX12_range_73 rfl rfl ?_
          refine px_icmp_le (tgt := 80) dX12_range_74 (by decide) (fun H74 => ?_) (fun H74 => ?_)
          · skip
            refine px_iinc_4 (v := 1) dX12_range_80 (by decide) (by decide) rfl ?_
            refine px_goto (tgt := 33) dX12_range_83 (by decide) ?_
            refine px_lw (ls' := [some (.ref m), some (.int z), some (.int (rIn S z a acc (k + 1))), some (.int (nI a)), some (.int (nI (a + 1 + (k + 1)))), none]) ?_ (ih (k + 1) _ (by assumption) (by omega) (by omega))
            first
            | (simp [LW, rIn, nI_1, *]; done)
            | (simp [LW, rIn, nI_1, *]; rfl)
          · skip
            refine px_iload dX12_range_77 rfl ?_
            refine px_istore_n2 dX12_range_79 (by decide) rfl ?_
            refine px_iinc_4 (v := 1) dX12_range_80 (by decide) (by decide) rfl ?_
            refine px_goto (tgt := 33) dX12_range_83 (by decide) ?_
            refine px_lw (ls' := [some (.ref m), some (.int z), some (.int (rIn S z a acc (k + 1))), some (.int (nI a)), some (.int (nI (a + 1 + (k + 1)))), none]) ?_ (ih (k + 1) _ (by assumption) (by omega) (by omega))
            first
            | (simp [LW, rIn, nI_1, *]; done)
            | (simp [LW, rIn, nI_1, *]; rfl)
        · skip
          rw [show (z >>> (nI (a + 1 + k) &&& 31)) &&& 1 = mBit z (a + 1 + k) from rfl] at H56
          refine px_goto (tgt := 80) dX12_range_59 (by decide) ?_
          refine px_iinc_4 (v := 1) dX12_range_80 (by decide) (by decide) rfl ?_
          refine px_goto (tgt := 33) dX12_range_83 (by decide) ?_
          refine px_lw (ls' := [some (.ref m), some (.int z), some (.int (rIn S z a acc (k + 1))), some (.int (nI a)), some (.int (nI (a + 1 + (k + 1)))), none]) ?_ (ih (k + 1) _ (by assumption) (by omega) (by omega))
          first
          | (simp [LW, rIn, nI_1, *]; done)
          | (simp [LW, rIn, nI_1, *]; rfl)
set_option maxHeartbeats 4000000 in
set_option maxRecDepth 100000 in
theorem lp_range1 (G : Gt) (m : Nat) (h0 : Ht) (S : MS) (n : Nat) (z : Int32) (hI : HI S n) (Post : Option Value → MS → Prop) (K : ∀ T : MS, fr scr S T → PX G (MPic G m h0) 4 Y12_range 92 [some (.ref m), some (.int z), some (.int (rOut S z n n)), none, none, none] [] T 0 0 Post) : ∀ (kk a : Nat) (T : MS), fr scr S T → a ≤ n → n + 1 ≤ a + kk → PX G (MPic G m h0) 4 Y12_range 20 [some (.ref m), some (.int z), some (.int (rOut S z n a)), some (.int (nI a)), none, none] [] T 0 0 Post := by
  have h6 := hI.2.1
  intro kk
  induction kk with
  | zero => intro a T hf h1 h2; omega
  | succ kk ih =>
    intro a T hf h1 h2
    refine px_iload_n dX12_range_20 rfl rfl ?_
    refine px_aload_n dX12_range_21 rfl rfl ?_
    refine mx_getI (k := 1) dX12_range_22 gX12_106 (fun _ => rfl) ?_
    refine px_icmp_ge (tgt := 92) dX12_range_25 (by decide) (fun H25 => ?_) (fun H25 => ?_)
    · skip
      rw [(hI.go hf).1] at H25
      have eN : a = n := by have := ge_n (a := a) (b := n) (by omega) (by omega) H25; omega
      rw [eN]
      exact px_lw (ls' := [some (.ref m), some (.int z), some (.int (rOut S z n n)), none, none, none]) (by simp [LW]) (K T hf)
    · skip
      rw [(hI.go hf).1] at H25
      have lN : a < n := lt_n (a := a) (b := n) (by omega) (by omega) H25
      refine px_iload_n dX12_range_28 rfl rfl ?_
      refine px_iconst (v := 1) dX12_range_29 (by decide) ?_
      refine px_iadd dX12_range_30 ?_
      refine px_istore_4 dX12_range_31 (by decide) rfl ?_
      rw [nI_1]
      refine lp_range2 G m h0 S n a z (rOut S z n a) hI lN _ (fun T2 hf2 => ?_) (n - (a + 1) + 1) 0 T hf (by omega) (by omega)
      refine px_iinc_3 (v := 1) dX12_range_86 (by decide) (by decide) rfl ?_
      refine px_goto (tgt := 20) dX12_range_89 (by decide) ?_
      refine px_lw (ls' := [some (.ref m), some (.int z), some (.int (rOut S z n (a + 1))), some (.int (nI (a + 1))), none, none]) ?_ (ih (a + 1) _ (by assumption) (by omega) (by omega))
      first
      | (simp [LW, rOut, nI_1, *]; done)
      | (simp [LW, rOut, nI_1, *]; rfl)
set_option maxHeartbeats 4000000 in
set_option maxRecDepth 100000 in
theorem c_X12_range (G : Gt) (m : Nat) (h0 : Ht) (S : MS) (z : Int32) (n : Nat) (hI : HI S n) : PC G (MPic G m h0) 4 Y12_range [.ref m, .int z] S 0 0 (ri (fun x S' => x = f_range S z ∧ fr scr S S')) := by
  have eN := hN_eq hI.1 (by have := hI.2.1; omega)
  refine pc_of (ls := [some (.ref m), some (.int z), none, none, none, none]) (by decide +kernel) rfl (Nat.le_of_ble_eq_true rfl) ?_
  refine px_iload_n dX12_range_0 rfl rfl ?_
  refine px_if_lt (tgt := 13) dX12_range_1 (by decide) (fun H1 => ?_) (fun H1 => ?_)
  · skip
    refine px_bipush (v := (-2)) dX12_range_13 (by decide) ?_
    refine px_iretI dX12_range_15 rfl ?_
    first | exact ⟨by simp [f_range, *], fr.rf⟩ | exact ⟨by simp [f_range, *], hf⟩
  · skip
    refine px_iload_n dX12_range_4 rfl rfl ?_
    refine px_aload_n dX12_range_5 rfl rfl ?_
    refine mx_getI (k := 1) dX12_range_6 gX12_106 (fun _ => rfl) ?_
    refine px_ishr dX12_range_9 ?_
    refine px_if_eq (tgt := 16) dX12_range_10 (by decide) (fun H10 => ?_) (fun H10 => ?_)
    · skip
      refine px_iconst (v := (-1)) dX12_range_16 (by decide) ?_
      refine px_istore_n2 dX12_range_17 (by decide) rfl ?_
      refine px_iconst (v := 0) dX12_range_18 (by decide) ?_
      refine px_istore_n3 dX12_range_19 (by decide) rfl ?_
      refine lp_range1 G m h0 S n z hI _ (fun T hf => ?_) (n + 1) 0 S fr.rf (by omega) (by omega)
      refine px_iload_n dX12_range_92 rfl rfl ?_
      refine px_iretI dX12_range_93 rfl ?_
      first | exact ⟨by simp [f_range, *], fr.rf⟩ | exact ⟨by simp [f_range, *], hf⟩
    · skip
      refine px_bipush (v := (-2)) dX12_range_13 (by decide) ?_
      refine px_iretI dX12_range_15 rfl ?_
      first | exact ⟨by simp [f_range, *], fr.rf⟩ | exact ⟨by simp [f_range, *], hf⟩
def mKS (S : MS) : Nat → Int32
  | 0 => 0
  | c + 1 => mKS S c + (if S 11 c = 0 then 0 else mKeep S c)
def mBS (S : MS) : Nat → Int32
  | 0 => 0
  | h + 1 => if mIn (S 2 h) 1 2 = 0 then mBS S h else mBS S h ||| ((1 : Int32) <<< (nI h &&& 31))
def f_count (S : MS) (w : Int32) : Int32 := if w = 0 then S 1 0 else if w = 1 then S 6 0 else if w = 2 then mDoneS S (cN S) else if w = 3 then S 16 0 else if w = 4 then S 15 0 else if w = 5 then S 17 0 else if w = 6 then mAllS S (hN S) else if w = 7 then mKS S (cN S) else if w = 8 then mBS S (hN S) else -2
set_option maxHeartbeats 4000000 in
set_option maxRecDepth 100000 in
theorem lp_cnt7 (G : Gt) (m : Nat) (h0 : Ht) (S : MS) (n cn : Nat) (w : Int32) (hI : HI S n) (hC : S 6 0 = nI cn) (hcn : cn ≤ 8) (Post : Option Value → MS → Prop) (K : ∀ T : MS, fr scr S T → PX G (MPic G m h0) 4 Y12_count 124 [some (.ref m), some (.int w), some (.int (mKS S cn)), some (.int (nI cn))] [] T 0 0 Post) : ∀ (kk i : Nat) (T : MS), fr scr S T → i ≤ cn → cn + 1 ≤ i + kk → PX G (MPic G m h0) 4 Y12_count 89 [some (.ref m), some (.int w), some (.int (mKS S i)), some (.int (nI i))] [] T 0 0 Post := by
  intro kk
  induction kk with
  | zero => intro i T hf h1 h2; omega
  | succ kk ih =>
    intro i T hf h1 h2
    refine px_iload_n dX12_count_89 rfl rfl ?_
    refine px_aload_n dX12_count_90 rfl rfl ?_
    refine mx_getI (k := 6) dX12_count_91 gX12_113 (fun _ => rfl) ?_
    refine px_icmp_ge (tgt := 124) dX12_count_94 (by decide) (fun H94 => ?_) (fun H94 => ?_)
    · skip
      rw [show T 6 0 = nI cn from by rw [hf 6 (by decide)]; exact hC] at H94
      have eN : i = cn := by have := ge_n (a := i) (b := cn) (by omega) (by omega) H94; omega
      rw [eN]
      exact px_lw (ls' := [some (.ref m), some (.int w), some (.int (mKS S cn)), some (.int (nI cn))]) (by simp [LW]) (K T hf)
    · skip
      rw [show T 6 0 = nI cn from by rw [hf 6 (by decide)]; exact hC] at H94
      have lN : i < cn := lt_n (a := i) (b := cn) (by omega) (by omega) H94
      refine px_iload_n dX12_count_97 rfl rfl ?_
      refine px_aload_n dX12_count_98 rfl rfl ?_
      refine mx_getA (k := 11) (j := 8) dX12_count_99 gX12_34 (fun _ => rfl) ?_
      refine px_iload_n dX12_count_102 rfl rfl ?_
      refine mx_zald (j := 8) (k := 11) _ dX12_count_103 rfl rfl (by omega) (by decide) ?_
      refine px_if_eq (tgt := 115) dX12_count_104 (by decide) (fun H104 => ?_) (fun H104 => ?_)
      · skip
        rw [hf 11 (by decide)] at H104
        refine px_iconst (v := 0) dX12_count_115 (by decide) ?_
        refine px_iadd dX12_count_116 ?_
        refine px_istore_n2 dX12_count_117 (by decide) rfl ?_
        refine px_iinc_3 (v := 1) dX12_count_118 (by decide) (by decide) rfl ?_
        refine px_goto (tgt := 89) dX12_count_121 (by decide) ?_
        refine px_lw (ls' := [some (.ref m), some (.int w), some (.int (mKS S (i + 1))), some (.int (nI (i + 1)))]) ?_ (ih (i + 1) _ (by assumption) (by omega) (by omega))
        first
        | (simp [LW, mKS, nI_1, *]; done)
        | (simp [LW, mKS, nI_1, *]; rfl)
      · skip
        rw [hf 11 (by decide)] at H104
        refine px_aload_n dX12_count_107 rfl rfl ?_
        refine px_iload_n dX12_count_108 rfl rfl ?_
        refine mx_callI1 dX12_count_109 lX12_143 rfl (c_keep G m h0 S T n i hI hf (by omega)) (by decide) (Nat.le_of_ble_eq_true rfl) (fun x109 S109 Q109 => ?_)
        obtain ⟨rfl, f109⟩ := Q109
        refine px_goto (tgt := 116) dX12_count_112 (by decide) ?_
        refine px_iadd dX12_count_116 ?_
        refine px_istore_n2 dX12_count_117 (by decide) rfl ?_
        refine px_iinc_3 (v := 1) dX12_count_118 (by decide) (by decide) rfl ?_
        refine px_goto (tgt := 89) dX12_count_121 (by decide) ?_
        refine px_lw (ls' := [some (.ref m), some (.int w), some (.int (mKS S (i + 1))), some (.int (nI (i + 1)))]) ?_ (ih (i + 1) _ (by assumption) (by omega) (by omega))
        first
        | (simp [LW, mKS, nI_1, *]; done)
        | (simp [LW, mKS, nI_1, *]; rfl)
set_option maxHeartbeats 4000000 in
set_option maxRecDepth 100000 in
theorem lp_cnt8 (G : Gt) (m : Nat) (h0 : Ht) (S : MS) (n : Nat) (w : Int32) (hI : HI S n) (Post : Option Value → MS → Prop) (K : ∀ T : MS, fr scr S T → PX G (MPic G m h0) 4 Y12_count 162 [some (.ref m), some (.int w), some (.int (mBS S n)), some (.int (nI n))] [] T 0 0 Post) : ∀ (kk i : Nat) (T : MS), fr scr S T → i ≤ n → n + 1 ≤ i + kk → PX G (MPic G m h0) 4 Y12_count 128 [some (.ref m), some (.int w), some (.int (mBS S i)), some (.int (nI i))] [] T 0 0 Post := by
  have h6 := hI.2.1
  intro kk
  induction kk with
  | zero => intro i T hf h1 h2; omega
  | succ kk ih =>
    intro i T hf h1 h2
    refine px_iload_n dX12_count_128 rfl rfl ?_
    refine px_aload_n dX12_count_129 rfl rfl ?_
    refine mx_getI (k := 1) dX12_count_130 gX12_106 (fun _ => rfl) ?_
    refine px_icmp_ge (tgt := 162) dX12_count_133 (by decide) (fun H133 => ?_) (fun H133 => ?_)
    · skip
      rw [(hI.go hf).1] at H133
      have eN : i = n := by have := ge_n (a := i) (b := n) (by omega) (by omega) H133; omega
      rw [eN]
      exact px_lw (ls' := [some (.ref m), some (.int w), some (.int (mBS S n)), some (.int (nI n))]) (by simp [LW]) (K T hf)
    · skip
      rw [(hI.go hf).1] at H133
      have lN : i < n := lt_n (a := i) (b := n) (by omega) (by omega) H133
      refine px_aload_n dX12_count_136 rfl rfl ?_
      refine mx_getA (k := 2) (j := 0) dX12_count_137 gX12_7 (fun _ => rfl) ?_
      refine px_iload_n dX12_count_140 rfl rfl ?_
      refine mx_iald (j := 0) (k := 2) _ dX12_count_141 rfl rfl (by omega) (by decide) ?_
      refine px_iconst (v := 1) dX12_count_142 (by decide) ?_
      refine px_iconst (v := 2) dX12_count_143 (by decide) ?_
      refine px_pure3 dX12_count_144 lX12_109 (c_X12_in G _ _ _) (by decide) (Nat.le_of_ble_eq_true rfl) ?_
      refine px_if_eq (tgt := 156) dX12_count_147 (by decide) (fun H147 => ?_) (fun H147 => ?_)
      · skip
        rw [hf 2 (by decide)] at H147
        refine px_iinc_3 (v := 1) dX12_count_156 (by decide) (by decide) rfl ?_
        refine px_goto (tgt := 128) dX12_count_159 (by decide) ?_
        refine px_lw (ls' := [some (.ref m), some (.int w), some (.int (mBS S (i + 1))), some (.int (nI (i + 1)))]) ?_ (ih (i + 1) _ (by assumption) (by omega) (by omega))
        first
        | (simp [LW, mBS, nI_1, *]; done)
        | (simp [LW, mBS, nI_1, *]; rfl)
      · skip
        rw [hf 2 (by decide)] at H147
        refine px_iload_n dX12_count_150 rfl rfl ?_
        refine px_iconst (v := 1) dX12_count_151 (by decide) ?_
        refine px_iload_n dX12_count_152 rfl rfl ?_
        refine px_ishl dX12_count_153 ?_
        refine px_ior dX12_count_154 ?_
        refine px_istore_n2 dX12_count_155 (by decide) rfl ?_
        refine px_iinc_3 (v := 1) dX12_count_156 (by decide) (by decide) rfl ?_
        refine px_goto (tgt := 128) dX12_count_159 (by decide) ?_
        refine px_lw (ls' := [some (.ref m), some (.int w), some (.int (mBS S (i + 1))), some (.int (nI (i + 1)))]) ?_ (ih (i + 1) _ (by assumption) (by omega) (by omega))
        first
        | (simp [LW, mBS, nI_1, *]; done)
        | (simp [LW, mBS, nI_1, *]; rfl)
set_option maxHeartbeats 4000000 in
set_option maxRecDepth 100000 in
theorem c_X12_count (G : Gt) (m : Nat) (h0 : Ht) (S : MS) (w : Int32) (n : Nat) (hI : HI S n) (cn : Nat) (hC : S 6 0 = nI cn) (hcn : cn ≤ 8) : PC G (MPic G m h0) 4 Y12_count [.ref m, .int w] S 0 0 (ri (fun x S' => x = f_count S w ∧ fr scr S S')) := by
  have eN := hN_eq hI.1 (by have := hI.2.1; omega)
  have eC := cN_eq hC (by omega)
  refine pc_of (ls := [some (.ref m), some (.int w), none, none]) (by decide +kernel) rfl (Nat.le_of_ble_eq_true rfl) ?_
  refine px_iconst (v := 0) dX12_count_0 (by decide) ?_
  refine px_istore_n2 dX12_count_1 (by decide) rfl ?_
  refine px_iload_n dX12_count_2 rfl rfl ?_
  rcases sw_0_8 (w) with H3 | H3 | H3 | H3 | H3 | H3 | H3 | H3 | H3 | H3
  · refine px_tableIn (off := 49) (tgt := 52) dX12_count_3 (by rw [H3]; decide) (by rw [H3]; decide) (by rw [H3]; rfl) (by decide) ?_
    subst H3
    refine px_aload_n dX12_count_52 rfl rfl ?_
    refine mx_getI (k := 1) dX12_count_53 gX12_106 (fun _ => rfl) ?_
    refine px_iretI dX12_count_56 rfl ?_
    first | exact ⟨by simp [f_count, eN, eC, *], fr.rf⟩ | exact ⟨by simp [f_count, eN, eC], hf⟩
  · refine px_tableIn (off := 54) (tgt := 57) dX12_count_3 (by rw [H3]; decide) (by rw [H3]; decide) (by rw [H3]; rfl) (by decide) ?_
    subst H3
    refine px_aload_n dX12_count_57 rfl rfl ?_
    refine mx_getI (k := 6) dX12_count_58 gX12_113 (fun _ => rfl) ?_
    refine px_iretI dX12_count_61 rfl ?_
    first | exact ⟨by simp [f_count, eN, eC, *], fr.rf⟩ | exact ⟨by simp [f_count, eN, eC], hf⟩
  · refine px_tableIn (off := 59) (tgt := 62) dX12_count_3 (by rw [H3]; decide) (by rw [H3]; decide) (by rw [H3]; rfl) (by decide) ?_
    subst H3
    refine px_aload_n dX12_count_62 rfl rfl ?_
    refine mx_callI0 dX12_count_63 lX12_320 rfl (c_X12_doneMany G m h0 S cn hC hcn) (by decide) (Nat.le_of_ble_eq_true rfl) (fun x63 S63 Q63 => ?_)
    obtain ⟨rfl, e63⟩ := Q63
    obtain rfl := e63.symm
    refine px_iretI dX12_count_66 rfl ?_
    first | exact ⟨by simp [f_count, eN, eC, *], fr.rf⟩ | exact ⟨by simp [f_count, eN, eC], hf⟩
  · refine px_tableIn (off := 64) (tgt := 67) dX12_count_3 (by rw [H3]; decide) (by rw [H3]; decide) (by rw [H3]; rfl) (by decide) ?_
    subst H3
    refine px_aload_n dX12_count_67 rfl rfl ?_
    refine mx_getI (k := 16) dX12_count_68 gX12_48 (fun _ => rfl) ?_
    refine px_iretI dX12_count_71 rfl ?_
    first | exact ⟨by simp [f_count, eN, eC, *], fr.rf⟩ | exact ⟨by simp [f_count, eN, eC], hf⟩
  · refine px_tableIn (off := 69) (tgt := 72) dX12_count_3 (by rw [H3]; decide) (by rw [H3]; decide) (by rw [H3]; rfl) (by decide) ?_
    subst H3
    refine px_aload_n dX12_count_72 rfl rfl ?_
    refine mx_getI (k := 15) dX12_count_73 gX12_149 (fun _ => rfl) ?_
    refine px_iretI dX12_count_76 rfl ?_
    first | exact ⟨by simp [f_count, eN, eC, *], fr.rf⟩ | exact ⟨by simp [f_count, eN, eC], hf⟩
  · refine px_tableIn (off := 74) (tgt := 77) dX12_count_3 (by rw [H3]; decide) (by rw [H3]; decide) (by rw [H3]; rfl) (by decide) ?_
    subst H3
    refine px_aload_n dX12_count_77 rfl rfl ?_
    refine mx_getI (k := 17) dX12_count_78 gX12_229 (fun _ => rfl) ?_
    refine px_iretI dX12_count_81 rfl ?_
    first | exact ⟨by simp [f_count, eN, eC, *], fr.rf⟩ | exact ⟨by simp [f_count, eN, eC], hf⟩
  · refine px_tableIn (off := 79) (tgt := 82) dX12_count_3 (by rw [H3]; decide) (by rw [H3]; decide) (by rw [H3]; rfl) (by decide) ?_
    subst H3
    refine px_aload_n dX12_count_82 rfl rfl ?_
    refine mx_callI0 dX12_count_83 lX12_304 rfl (c_X12_allOunces G m h0 S n hI.1 hI.2.1) (by decide) (Nat.le_of_ble_eq_true rfl) (fun x83 S83 Q83 => ?_)
    obtain ⟨rfl, e83⟩ := Q83
    obtain rfl := e83.symm
    refine px_iretI dX12_count_86 rfl ?_
    first | exact ⟨by simp [f_count, eN, eC, *], fr.rf⟩ | exact ⟨by simp [f_count, eN, eC], hf⟩
  · refine px_tableIn (off := 84) (tgt := 87) dX12_count_3 (by rw [H3]; decide) (by rw [H3]; decide) (by rw [H3]; rfl) (by decide) ?_
    subst H3
    refine px_iconst (v := 0) dX12_count_87 (by decide) ?_
    refine px_istore_n3 dX12_count_88 (by decide) rfl ?_
    refine lp_cnt7 G m h0 S n cn 7 hI hC hcn _ (fun T hf => ?_) (cn + 1) 0 S fr.rf (by omega) (by omega)
    refine px_iload_n dX12_count_124 rfl rfl ?_
    refine px_iretI dX12_count_125 rfl ?_
    first | exact ⟨by simp [f_count, eN, eC, *], fr.rf⟩ | exact ⟨by simp [f_count, eN, eC], hf⟩
  · refine px_tableIn (off := 123) (tgt := 126) dX12_count_3 (by rw [H3]; decide) (by rw [H3]; decide) (by rw [H3]; rfl) (by decide) ?_
    subst H3
    refine px_iconst (v := 0) dX12_count_126 (by decide) ?_
    refine px_istore_n3 dX12_count_127 (by decide) rfl ?_
    refine lp_cnt8 G m h0 S n 8 hI _ (fun T hf => ?_) (n + 1) 0 S fr.rf (by omega) (by omega)
    refine px_iload_n dX12_count_162 rfl rfl ?_
    refine px_iretI dX12_count_163 rfl ?_
    first | exact ⟨by simp [f_count, eN, eC, *], fr.rf⟩ | exact ⟨by simp [f_count, eN, eC], hf⟩
  · refine px_tableOut (tgt := 164) dX12_count_3 H3 (by decide) ?_
    have N3_0 : ¬ w = 0 := by intro e9; rw [e9] at H3; revert H3; decide
    have N3_1 : ¬ w = 1 := by intro e9; rw [e9] at H3; revert H3; decide
    have N3_2 : ¬ w = 2 := by intro e9; rw [e9] at H3; revert H3; decide
    have N3_3 : ¬ w = 3 := by intro e9; rw [e9] at H3; revert H3; decide
    have N3_4 : ¬ w = 4 := by intro e9; rw [e9] at H3; revert H3; decide
    have N3_5 : ¬ w = 5 := by intro e9; rw [e9] at H3; revert H3; decide
    have N3_6 : ¬ w = 6 := by intro e9; rw [e9] at H3; revert H3; decide
    have N3_7 : ¬ w = 7 := by intro e9; rw [e9] at H3; revert H3; decide
    have N3_8 : ¬ w = 8 := by intro e9; rw [e9] at H3; revert H3; decide
    refine px_bipush (v := (-2)) dX12_count_164 (by decide) ?_
    refine px_iretI dX12_count_166 rfl ?_
    first | exact ⟨by simp [f_count, eN, eC, *], fr.rf⟩ | exact ⟨by simp [f_count, eN, eC], hf⟩
