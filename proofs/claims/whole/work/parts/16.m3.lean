/-! THE REFERENCE: public calls without a loop. f_..: the answer, and the state behind it (scratch fields apart) -/
/-- the fields that no answer shows -/
def scr : List Nat := [21, 22, 23, 24, 25, 26, 27, 28, 29, 30, 31, 32, 33, 34, 35, 36, 37, 38, 51]
def hN (S : MS) : Nat := (S 1 0).toNatClampNeg
def cN (S : MS) : Nat := (S 6 0).toNatClampNeg
theorem hN_eq {S : MS} {n : Nat} (h : S 1 0 = nI n) (hn : n ≤ 100000) : hN S = n := by unfold hN; rw [h, nI_clamp (by omega)]
theorem cN_eq {S : MS} {n : Nat} (h : S 6 0 = nI n) (hn : n ≤ 100000) : cN S = n := by unfold cN; rw [h, nI_clamp (by omega)]
def f_hank (S : MS) (o s v : Int32) : Int32 × MS := if mIn o 0 99 = 0 ∨ mIn s 0 99 = 0 ∨ mIn v 0 8 = 0 then (-2, S) else if S 1 0 = 6 then (-4, S) else (S 1 0, up2 (up2 (up2 (up2 S 2 (hN S) o) 3 (hN S) s) 4 (hN S) v) 1 0 (S 1 0 + 1))
def f_ounces (S : MS) (h n : Int32) : Int32 × MS := if mHk S h = 0 ∨ mIn n 0 99 = 0 then (-2, S) else (S 2 h.toNatClampNeg, up2 S 2 h.toNatClampNeg n)
def f_fade (S : MS) (v n : Int32) : Int32 × MS := if mIn v 0 8 = 0 ∨ mIn n 0 50 = 0 then (-2, S) else (S 5 v.toNatClampNeg, up2 S 5 v.toNatClampNeg n)
def f_coat (S : MS) (k size rest : Int32) : Int32 × MS := if mIn k 0 5 = 0 ∨ mIn size 1 9 = 0 ∨ rest < 0 ∨ 20 < rest / 1000 then (-2, S) else if S 6 0 = 8 then (-4, S) else (S 6 0, up2 (up2 (up2 (up2 (up2 (up2 S 7 (cN S) k) 8 (cN S) size) 9 (cN S) (rest / 1000)) 10 (cN S) (rest - rest / 1000 * 1000)) 11 (cN S) 0) 6 0 (S 6 0 + 1))
def f_hankTold (S : MS) (h w : Int32) : Int32 := if mHk S h = 0 then -5 else if w = 0 then S 2 h.toNatClampNeg else if w = 1 then mSh S h.toNatClampNeg else if w = 2 then S 4 h.toNatClampNeg else -5
def f_force (S : MS) (t : Int32) : Int32 × MS := if mIn t 0 (S 16 0 - 1) = 0 then (-2, S) else (S 17 0, up2 S 17 0 t)
def f_between (S : MS) (a b k : Int32) : Int32 := if mHk S a = 0 ∨ mHk S b = 0 ∨ a = b ∨ mIn k 1 9 = 0 then -2 else (k * mSh S a.toNatClampNeg + mSh S b.toNatClampNeg) / (k + 1)
def f_taken (S : MS) (c k : Int32) : Int32 := if mIn k 0 5 = 0 then -2 else if mCt S c = 0 then -11 else if mUnder (S 7 c.toNatClampNeg) k = 0 then -13 else S 10 c.toNatClampNeg
theorem hk_ix {S : MS} {v : Int32} {n : Nat} (hH : S 1 0 = nI n) (hn : n ≤ 6) (H : ¬ mHk S v = 0) : ∃ j : Nat, j < n ∧ v = nI j ∧ v.toNatClampNeg = j := by
  unfold mHk at H
  rw [hH] at H
  obtain ⟨j, hj, e⟩ := ix_of (by omega) H
  exact ⟨j, hj, e, by rw [e, nI_clamp (by omega)]⟩
theorem ct_ix {S : MS} {v : Int32} {n : Nat} (hC : S 6 0 = nI n) (hn : n ≤ 8) (H : ¬ mCt S v = 0) : ∃ j : Nat, j < n ∧ v = nI j ∧ v.toNatClampNeg = j := by
  unfold mCt at H
  rw [hC] at H
  obtain ⟨j, hj, e⟩ := ix_of (by omega) H
  exact ⟨j, hj, e, by rw [e, nI_clamp (by omega)]⟩
theorem c_shade (G : Gt) (m : Nat) (h0 : Ht) (S : MS) (j : Nat) (hj : j < 6) (hV : ∀ i, i < 6 → ∃ v, v < 9 ∧ S 4 i = nI v) : PC G (MPic G m h0) 2 Y12_shadeOf [.ref m, .int (nI j)] S 0 0 (ri (fun x S' => x = mSh S j ∧ S' = S)) := by
  obtain ⟨v, hv9, hv⟩ := hV j hj
  exact c_X12_shadeOf G m h0 S j hj v hv hv9
theorem sub1 (x : Int32) : x + 1 - 1 = x := by
  rw [Int32.add_sub_cancel]
set_option maxHeartbeats 4000000 in
set_option maxRecDepth 100000 in
theorem c_X12_hank (G : Gt) (m : Nat) (h0 : Ht) (S : MS) (o s v : Int32) (n : Nat) (hH : S 1 0 = nI n) (hn : n ≤ 6) : PC G (MPic G m h0) 2 Y12_hank [.ref m, .int o, .int s, .int v] S 0 0 (ri (fun x S' => x = (f_hank S o s v).1 ∧ S' = (f_hank S o s v).2)) := by
  have eN := hN_eq hH (by omega)
  refine pc_of (ls := [some (.ref m), some (.int o), some (.int s), some (.int v)]) (by decide +kernel) rfl (Nat.le_of_ble_eq_true rfl) ?_
  refine px_iload_n dX12_hank_0 rfl rfl ?_
  refine px_iconst (v := 0) dX12_hank_1 (by decide) ?_
  refine px_bipush (v := 99) dX12_hank_2 (by decide) ?_
  refine px_pure3 dX12_hank_4 lX12_109 (c_X12_in G _ _ _) (by decide) (Nat.le_of_ble_eq_true rfl) ?_
  refine px_if_eq (tgt := 30) dX12_hank_7 (by decide) (fun H7 => ?_) (fun H7 => ?_)
  · skip
    refine px_bipush (v := (-2)) dX12_hank_30 (by decide) ?_
    refine px_iretI dX12_hank_32 rfl ?_
    exact ⟨by simp [f_hank, up2_eq, up2_ne, upd, sub1, *], Eq.symm (by simp [f_hank, up2_ne, *])⟩
  · skip
    refine px_iload_n dX12_hank_10 rfl rfl ?_
    refine px_iconst (v := 0) dX12_hank_11 (by decide) ?_
    refine px_bipush (v := 99) dX12_hank_12 (by decide) ?_
    refine px_pure3 dX12_hank_14 lX12_109 (c_X12_in G _ _ _) (by decide) (Nat.le_of_ble_eq_true rfl) ?_
    refine px_if_eq (tgt := 30) dX12_hank_17 (by decide) (fun H17 => ?_) (fun H17 => ?_)
    · skip
      refine px_bipush (v := (-2)) dX12_hank_30 (by decide) ?_
      refine px_iretI dX12_hank_32 rfl ?_
      exact ⟨by simp [f_hank, up2_eq, up2_ne, upd, sub1, *], Eq.symm (by simp [f_hank, up2_ne, *])⟩
    · skip
      refine px_iload_n dX12_hank_20 rfl rfl ?_
      refine px_iconst (v := 0) dX12_hank_21 (by decide) ?_
      refine px_bipush (v := 8) dX12_hank_22 (by decide) ?_
      refine px_pure3 dX12_hank_24 lX12_109 (c_X12_in G _ _ _) (by decide) (Nat.le_of_ble_eq_true rfl) ?_
      refine px_if_ne (tgt := 33) dX12_hank_27 (by decide) (fun H27 => ?_) (fun H27 => ?_)
      · skip
        refine px_aload_n dX12_hank_33 rfl rfl ?_
        refine mx_getI (k := 1) dX12_hank_34 gX12_106 (fun _ => rfl) ?_
        refine px_bipush (v := 6) dX12_hank_37 (by decide) ?_
        refine px_icmp_ne (tgt := 45) dX12_hank_39 (by decide) (fun H39 => ?_) (fun H39 => ?_)
        · skip
          rw [hH] at H39
          have n6 : n < 6 := by have := ne_n (b := 6) (by omega) (by omega) H39; omega
          refine px_aload_n dX12_hank_45 rfl rfl ?_
          refine mx_getA (k := 2) (j := 0) dX12_hank_46 gX12_7 (fun _ => rfl) ?_
          refine px_aload_n dX12_hank_49 rfl rfl ?_
          refine mx_getI (k := 1) dX12_hank_50 gX12_106 (fun _ => rfl) ?_
          refine px_iload_n dX12_hank_53 rfl rfl ?_
          refine mx_iast (j := 0) (k := 2) _ dX12_hank_54 rfl hH (by omega) (by decide) ?_
          refine px_aload_n dX12_hank_55 rfl rfl ?_
          refine mx_getA (k := 3) (j := 1) dX12_hank_56 gX12_13 (fun _ => rfl) ?_
          refine px_aload_n dX12_hank_59 rfl rfl ?_
          refine mx_getI (k := 1) dX12_hank_60 gX12_106 (fun _ => rfl) ?_
          refine px_iload_n dX12_hank_63 rfl rfl ?_
          refine mx_iast (j := 1) (k := 3) _ dX12_hank_64 rfl hH (by omega) (by decide) ?_
          refine px_aload_n dX12_hank_65 rfl rfl ?_
          refine mx_getA (k := 4) (j := 2) dX12_hank_66 gX12_16 (fun _ => rfl) ?_
          refine px_aload_n dX12_hank_69 rfl rfl ?_
          refine mx_getI (k := 1) dX12_hank_70 gX12_106 (fun _ => rfl) ?_
          refine px_iload_n dX12_hank_73 rfl rfl ?_
          refine mx_iast (j := 2) (k := 4) _ dX12_hank_74 rfl hH (by omega) (by decide) ?_
          refine px_aload_n dX12_hank_75 rfl rfl ?_
          refine px_dup dX12_hank_76 rfl ?_
          refine mx_getI (k := 1) dX12_hank_77 gX12_106 (fun _ => rfl) ?_
          refine px_iconst (v := 1) dX12_hank_80 (by decide) ?_
          refine px_iadd dX12_hank_81 ?_
          refine mx_putI (k := 1) dX12_hank_82 gX12_106 (by decide) rfl rfl ?_
          refine px_aload_n dX12_hank_85 rfl rfl ?_
          refine mx_getI (k := 1) dX12_hank_86 gX12_106 (fun _ => rfl) ?_
          refine px_iconst (v := 1) dX12_hank_89 (by decide) ?_
          refine px_isub dX12_hank_90 ?_
          refine px_iretI dX12_hank_91 rfl ?_
          exact ⟨by simp [f_hank, up2_eq, up2_ne, upd, sub1, *], Eq.symm (by simp [f_hank, up2_ne, *])⟩
        · skip
          rw [hH] at H39
          refine px_bipush (v := (-4)) dX12_hank_42 (by decide) ?_
          refine px_iretI dX12_hank_44 rfl ?_
          exact ⟨by simp [f_hank, up2_eq, up2_ne, upd, sub1, *], Eq.symm (by simp [f_hank, up2_ne, *])⟩
      · skip
        refine px_bipush (v := (-2)) dX12_hank_30 (by decide) ?_
        refine px_iretI dX12_hank_32 rfl ?_
        exact ⟨by simp [f_hank, up2_eq, up2_ne, upd, sub1, *], Eq.symm (by simp [f_hank, up2_ne, *])⟩
set_option maxHeartbeats 4000000 in
set_option maxRecDepth 100000 in
theorem c_X12_ounces (G : Gt) (m : Nat) (h0 : Ht) (S : MS) (h q : Int32) (n : Nat) (hH : S 1 0 = nI n) (hn : n ≤ 6) : PC G (MPic G m h0) 3 Y12_ounces [.ref m, .int h, .int q] S 0 0 (ri (fun x S' => x = (f_ounces S h q).1 ∧ S' = (f_ounces S h q).2)) := by
  refine pc_of (ls := [some (.ref m), some (.int h), some (.int q), none]) (by decide +kernel) rfl (Nat.le_of_ble_eq_true rfl) ?_
  refine px_aload_n dX12_ounces_0 rfl rfl ?_
  refine px_iload_n dX12_ounces_1 rfl rfl ?_
  refine mx_callI1 dX12_ounces_2 lX12_116 rfl (c_X12_isHank G m h0 S _) (by decide) (Nat.le_of_ble_eq_true rfl) (fun x2 S2 Q2 => ?_)
  obtain ⟨rfl, e2⟩ := Q2
  obtain rfl := e2.symm
  refine px_if_eq (tgt := 18) dX12_ounces_5 (by decide) (fun H5 => ?_) (fun H5 => ?_)
  · skip
    refine px_bipush (v := (-2)) dX12_ounces_18 (by decide) ?_
    refine px_iretI dX12_ounces_20 rfl ?_
    exact ⟨by simp [f_ounces, *], Eq.symm (by simp [f_ounces, *])⟩
  · skip
    refine px_iload_n dX12_ounces_8 rfl rfl ?_
    refine px_iconst (v := 0) dX12_ounces_9 (by decide) ?_
    refine px_bipush (v := 99) dX12_ounces_10 (by decide) ?_
    refine px_pure3 dX12_ounces_12 lX12_109 (c_X12_in G _ _ _) (by decide) (Nat.le_of_ble_eq_true rfl) ?_
    refine px_if_ne (tgt := 21) dX12_ounces_15 (by decide) (fun H15 => ?_) (fun H15 => ?_)
    · skip
      obtain ⟨j, hj, ej, tj⟩ := hk_ix hH hn H5
      subst ej
      refine px_aload_n dX12_ounces_21 rfl rfl ?_
      refine mx_getA (k := 2) (j := 0) dX12_ounces_22 gX12_7 (fun _ => rfl) ?_
      refine px_iload_n dX12_ounces_25 rfl rfl ?_
      refine mx_iald (j := 0) (k := 2) _ dX12_ounces_26 rfl rfl (by omega) (by decide) ?_
      refine px_istore_n3 dX12_ounces_27 (by decide) rfl ?_
      refine px_aload_n dX12_ounces_28 rfl rfl ?_
      refine mx_getA (k := 2) (j := 0) dX12_ounces_29 gX12_7 (fun _ => rfl) ?_
      refine px_iload_n dX12_ounces_32 rfl rfl ?_
      refine px_iload_n dX12_ounces_33 rfl rfl ?_
      refine mx_iast (j := 0) (k := 2) _ dX12_ounces_34 rfl rfl (by omega) (by decide) ?_
      refine px_iload_n dX12_ounces_35 rfl rfl ?_
      refine px_iretI dX12_ounces_36 rfl ?_
      exact ⟨by simp [f_ounces, *], Eq.symm (by simp [f_ounces, *])⟩
    · skip
      refine px_bipush (v := (-2)) dX12_ounces_18 (by decide) ?_
      refine px_iretI dX12_ounces_20 rfl ?_
      exact ⟨by simp [f_ounces, *], Eq.symm (by simp [f_ounces, *])⟩
set_option maxHeartbeats 4000000 in
set_option maxRecDepth 100000 in
theorem c_X12_fade (G : Gt) (m : Nat) (h0 : Ht) (S : MS) (v q : Int32)  : PC G (MPic G m h0) 2 Y12_fade [.ref m, .int v, .int q] S 0 0 (ri (fun x S' => x = (f_fade S v q).1 ∧ S' = (f_fade S v q).2)) := by
  refine pc_of (ls := [some (.ref m), some (.int v), some (.int q), none]) (by decide +kernel) rfl (Nat.le_of_ble_eq_true rfl) ?_
  refine px_iload_n dX12_fade_0 rfl rfl ?_
  refine px_iconst (v := 0) dX12_fade_1 (by decide) ?_
  refine px_bipush (v := 8) dX12_fade_2 (by decide) ?_
  refine px_pure3 dX12_fade_4 lX12_109 (c_X12_in G _ _ _) (by decide) (Nat.le_of_ble_eq_true rfl) ?_
  refine px_if_eq (tgt := 20) dX12_fade_7 (by decide) (fun H7 => ?_) (fun H7 => ?_)
  · skip
    refine px_bipush (v := (-2)) dX12_fade_20 (by decide) ?_
    refine px_iretI dX12_fade_22 rfl ?_
    exact ⟨by simp [f_fade, *], Eq.symm (by simp [f_fade, *])⟩
  · skip
    refine px_iload_n dX12_fade_10 rfl rfl ?_
    refine px_iconst (v := 0) dX12_fade_11 (by decide) ?_
    refine px_bipush (v := 50) dX12_fade_12 (by decide) ?_
    refine px_pure3 dX12_fade_14 lX12_109 (c_X12_in G _ _ _) (by decide) (Nat.le_of_ble_eq_true rfl) ?_
    refine px_if_ne (tgt := 23) dX12_fade_17 (by decide) (fun H17 => ?_) (fun H17 => ?_)
    · skip
      obtain ⟨j, hj, rfl⟩ := in_of (n := 8) rfl (by omega) H7
      have tj : (nI j).toNatClampNeg = j := nI_clamp (by omega)
      refine px_aload_n dX12_fade_23 rfl rfl ?_
      refine mx_getA (k := 5) (j := 3) dX12_fade_24 gX12_19 (fun _ => rfl) ?_
      refine px_iload_n dX12_fade_27 rfl rfl ?_
      refine mx_iald (j := 3) (k := 5) _ dX12_fade_28 rfl rfl (by omega) (by decide) ?_
      refine px_istore_n3 dX12_fade_29 (by decide) rfl ?_
      refine px_aload_n dX12_fade_30 rfl rfl ?_
      refine mx_getA (k := 5) (j := 3) dX12_fade_31 gX12_19 (fun _ => rfl) ?_
      refine px_iload_n dX12_fade_34 rfl rfl ?_
      refine px_iload_n dX12_fade_35 rfl rfl ?_
      refine mx_iast (j := 3) (k := 5) _ dX12_fade_36 rfl rfl (by omega) (by decide) ?_
      refine px_iload_n dX12_fade_37 rfl rfl ?_
      refine px_iretI dX12_fade_38 rfl ?_
      exact ⟨by simp [f_fade, *], Eq.symm (by simp [f_fade, *])⟩
    · skip
      refine px_bipush (v := (-2)) dX12_fade_20 (by decide) ?_
      refine px_iretI dX12_fade_22 rfl ?_
      exact ⟨by simp [f_fade, *], Eq.symm (by simp [f_fade, *])⟩
set_option maxHeartbeats 4000000 in
set_option maxRecDepth 100000 in
theorem c_X12_coat (G : Gt) (m : Nat) (h0 : Ht) (S : MS) (k z r : Int32) (n : Nat) (hC : S 6 0 = nI n) (hn : n ≤ 8) : PC G (MPic G m h0) 2 Y12_coat [.ref m, .int k, .int z, .int r] S 0 0 (ri (fun x S' => x = (f_coat S k z r).1 ∧ S' = (f_coat S k z r).2)) := by
  have eN := cN_eq hC (by omega)
  have ez : vp_nar .boolean 0 = 0 := rfl
  refine pc_of (ls := [some (.ref m), some (.int k), some (.int z), some (.int r)]) (by decide +kernel) rfl (Nat.le_of_ble_eq_true rfl) ?_
  refine px_iload_n dX12_coat_0 rfl rfl ?_
  refine px_iconst (v := 0) dX12_coat_1 (by decide) ?_
  refine px_iconst (v := 5) dX12_coat_2 (by decide) ?_
  refine px_pure3 dX12_coat_3 lX12_109 (c_X12_in G _ _ _) (by decide) (Nat.le_of_ble_eq_true rfl) ?_
  refine px_if_eq (tgt := 33) dX12_coat_6 (by decide) (fun H6 => ?_) (fun H6 => ?_)
  · skip
    refine px_bipush (v := (-2)) dX12_coat_33 (by decide) ?_
    refine px_iretI dX12_coat_35 rfl ?_
    exact ⟨by simp [f_coat, up2_eq, up2_ne, upd, sub1, *], Eq.symm (by simp [f_coat, up2_ne, *])⟩
  · skip
    refine px_iload_n dX12_coat_9 rfl rfl ?_
    refine px_iconst (v := 1) dX12_coat_10 (by decide) ?_
    refine px_bipush (v := 9) dX12_coat_11 (by decide) ?_
    refine px_pure3 dX12_coat_13 lX12_109 (c_X12_in G _ _ _) (by decide) (Nat.le_of_ble_eq_true rfl) ?_
    refine px_if_eq (tgt := 33) dX12_coat_16 (by decide) (fun H16 => ?_) (fun H16 => ?_)
    · skip
      refine px_bipush (v := (-2)) dX12_coat_33 (by decide) ?_
      refine px_iretI dX12_coat_35 rfl ?_
      exact ⟨by simp [f_coat, up2_eq, up2_ne, upd, sub1, *], Eq.symm (by simp [f_coat, up2_ne, *])⟩
    · skip
      refine px_iload_n dX12_coat_19 rfl rfl ?_
      refine px_if_lt (tgt := 33) dX12_coat_20 (by decide) (fun H20 => ?_) (fun H20 => ?_)
      · skip
        refine px_bipush (v := (-2)) dX12_coat_33 (by decide) ?_
        refine px_iretI dX12_coat_35 rfl ?_
        exact ⟨by simp [f_coat, up2_eq, up2_ne, upd, sub1, *], Eq.symm (by simp [f_coat, up2_ne, *])⟩
      · skip
        refine px_iload_n dX12_coat_23 rfl rfl ?_
        refine px_sipush (v := 1000) dX12_coat_24 (by decide) ?_
        refine px_idiv dX12_coat_27 (by decide) ?_
        refine px_bipush (v := 20) dX12_coat_28 (by decide) ?_
        refine px_icmp_le (tgt := 36) dX12_coat_30 (by decide) (fun H30 => ?_) (fun H30 => ?_)
        · skip
          refine px_aload_n dX12_coat_36 rfl rfl ?_
          refine mx_getI (k := 6) dX12_coat_37 gX12_113 (fun _ => rfl) ?_
          refine px_bipush (v := 8) dX12_coat_40 (by decide) ?_
          refine px_icmp_ne (tgt := 48) dX12_coat_42 (by decide) (fun H42 => ?_) (fun H42 => ?_)
          · skip
            rw [hC] at H42
            have n8 : n < 8 := by have := ne_n (b := 8) (by omega) (by omega) H42; omega
            refine px_aload_n dX12_coat_48 rfl rfl ?_
            refine mx_getA (k := 7) (j := 4) dX12_coat_49 gX12_22 (fun _ => rfl) ?_
            refine px_aload_n dX12_coat_52 rfl rfl ?_
            refine mx_getI (k := 6) dX12_coat_53 gX12_113 (fun _ => rfl) ?_
            refine px_iload_n dX12_coat_56 rfl rfl ?_
            refine mx_iast (j := 4) (k := 7) _ dX12_coat_57 rfl hC (by omega) (by decide) ?_
            refine px_aload_n dX12_coat_58 rfl rfl ?_
            refine mx_getA (k := 8) (j := 5) dX12_coat_59 gX12_25 (fun _ => rfl) ?_
            refine px_aload_n dX12_coat_62 rfl rfl ?_
            refine mx_getI (k := 6) dX12_coat_63 gX12_113 (fun _ => rfl) ?_
            refine px_iload_n dX12_coat_66 rfl rfl ?_
            refine mx_iast (j := 5) (k := 8) _ dX12_coat_67 rfl hC (by omega) (by decide) ?_
            refine px_aload_n dX12_coat_68 rfl rfl ?_
            refine mx_getA (k := 9) (j := 6) dX12_coat_69 gX12_28 (fun _ => rfl) ?_
            refine px_aload_n dX12_coat_72 rfl rfl ?_
            refine mx_getI (k := 6) dX12_coat_73 gX12_113 (fun _ => rfl) ?_
            refine px_iload_n dX12_coat_76 rfl rfl ?_
            refine px_sipush (v := 1000) dX12_coat_77 (by decide) ?_
            refine px_idiv dX12_coat_80 (by decide) ?_
            refine mx_iast (j := 6) (k := 9) _ dX12_coat_81 rfl hC (by omega) (by decide) ?_
            refine px_aload_n dX12_coat_82 rfl rfl ?_
            refine mx_getA (k := 10) (j := 7) dX12_coat_83 gX12_31 (fun _ => rfl) ?_
            refine px_aload_n dX12_coat_86 rfl rfl ?_
            refine mx_getI (k := 6) dX12_coat_87 gX12_113 (fun _ => rfl) ?_
            refine px_iload_n dX12_coat_90 rfl rfl ?_
            refine px_sipush (v := 1000) dX12_coat_91 (by decide) ?_
            refine px_irem dX12_coat_94 (by decide) ?_
            refine mx_iast (j := 7) (k := 10) _ dX12_coat_95 rfl hC (by omega) (by decide) ?_
            refine px_aload_n dX12_coat_96 rfl rfl ?_
            refine mx_getA (k := 11) (j := 8) dX12_coat_97 gX12_34 (fun _ => rfl) ?_
            refine px_aload_n dX12_coat_100 rfl rfl ?_
            refine mx_getI (k := 6) dX12_coat_101 gX12_113 (fun _ => rfl) ?_
            refine px_iconst (v := 0) dX12_coat_104 (by decide) ?_
            refine mx_zast (j := 8) (k := 11) _ dX12_coat_105 rfl hC (by omega) (by decide) ?_
            refine px_aload_n dX12_coat_106 rfl rfl ?_
            refine px_dup dX12_coat_107 rfl ?_
            refine mx_getI (k := 6) dX12_coat_108 gX12_113 (fun _ => rfl) ?_
            refine px_iconst (v := 1) dX12_coat_111 (by decide) ?_
            refine px_iadd dX12_coat_112 ?_
            refine mx_putI (k := 6) dX12_coat_113 gX12_113 (by decide) rfl rfl ?_
            refine px_aload_n dX12_coat_116 rfl rfl ?_
            refine mx_getI (k := 6) dX12_coat_117 gX12_113 (fun _ => rfl) ?_
            refine px_iconst (v := 1) dX12_coat_120 (by decide) ?_
            refine px_isub dX12_coat_121 ?_
            refine px_iretI dX12_coat_122 rfl ?_
            exact ⟨by simp [f_coat, up2_eq, up2_ne, upd, sub1, *], Eq.symm (by simp [f_coat, up2_ne, *])⟩
          · skip
            rw [hC] at H42
            refine px_bipush (v := (-4)) dX12_coat_45 (by decide) ?_
            refine px_iretI dX12_coat_47 rfl ?_
            exact ⟨by simp [f_coat, up2_eq, up2_ne, upd, sub1, *], Eq.symm (by simp [f_coat, up2_ne, *])⟩
        · skip
          refine px_bipush (v := (-2)) dX12_coat_33 (by decide) ?_
          refine px_iretI dX12_coat_35 rfl ?_
          exact ⟨by simp [f_coat, up2_eq, up2_ne, upd, sub1, *], Eq.symm (by simp [f_coat, up2_ne, *])⟩
set_option maxHeartbeats 4000000 in
set_option maxRecDepth 100000 in
theorem c_X12_hankTold (G : Gt) (m : Nat) (h0 : Ht) (S : MS) (h w : Int32) (n : Nat) (hH : S 1 0 = nI n) (hn : n ≤ 6) (hV : ∀ i, i < 6 → ∃ v, v < 9 ∧ S 4 i = nI v) : PC G (MPic G m h0) 3 Y12_hankTold [.ref m, .int h, .int w] S 0 0 (ri (fun x S' => x = f_hankTold S h w ∧ S' = S)) := by
  refine pc_of (ls := [some (.ref m), some (.int h), some (.int w)]) (by decide +kernel) rfl (Nat.le_of_ble_eq_true rfl) ?_
  refine px_aload_n dX12_hankTold_0 rfl rfl ?_
  refine px_iload_n dX12_hankTold_1 rfl rfl ?_
  refine mx_callI1 dX12_hankTold_2 lX12_116 rfl (c_X12_isHank G m h0 S _) (by decide) (Nat.le_of_ble_eq_true rfl) (fun x2 S2 Q2 => ?_)
  obtain ⟨rfl, e2⟩ := Q2
  obtain rfl := e2.symm
  refine px_if_ne (tgt := 13) dX12_hankTold_5 (by decide) (fun H5 => ?_) (fun H5 => ?_)
  · skip
    obtain ⟨j, hj, ej, tj⟩ := hk_ix hH hn H5
    subst ej
    refine px_iload_n dX12_hankTold_13 rfl rfl ?_
    refine px_if_ne (tgt := 26) dX12_hankTold_14 (by decide) (fun H14 => ?_) (fun H14 => ?_)
    · skip
      refine px_iload_n dX12_hankTold_26 rfl rfl ?_
      refine px_iconst (v := 1) dX12_hankTold_27 (by decide) ?_
      refine px_icmp_ne (tgt := 39) dX12_hankTold_28 (by decide) (fun H28 => ?_) (fun H28 => ?_)
      · skip
        refine px_iload_n dX12_hankTold_39 rfl rfl ?_
        refine px_iconst (v := 2) dX12_hankTold_40 (by decide) ?_
        refine px_icmp_ne (tgt := 53) dX12_hankTold_41 (by decide) (fun H41 => ?_) (fun H41 => ?_)
        · skip
          refine px_bipush (v := (-5)) dX12_hankTold_53 (by decide) ?_
          refine px_iretI dX12_hankTold_55 rfl ?_
          exact ⟨by simp [f_hankTold, *], rfl⟩
        · skip
          refine px_aload_n dX12_hankTold_44 rfl rfl ?_
          refine mx_getA (k := 4) (j := 2) dX12_hankTold_45 gX12_16 (fun _ => rfl) ?_
          refine px_iload_n dX12_hankTold_48 rfl rfl ?_
          refine mx_iald (j := 2) (k := 4) _ dX12_hankTold_49 rfl rfl (by omega) (by decide) ?_
          refine px_goto (tgt := 55) dX12_hankTold_50 (by decide) ?_
          refine px_iretI dX12_hankTold_55 rfl ?_
          exact ⟨by simp [f_hankTold, *], rfl⟩
      · skip
        refine px_aload_n dX12_hankTold_31 rfl rfl ?_
        refine px_iload_n dX12_hankTold_32 rfl rfl ?_
        refine mx_callI1 dX12_hankTold_33 lX12_146 rfl (c_shade G m h0 S j (by omega) hV) (by decide) (Nat.le_of_ble_eq_true rfl) (fun x33 S33 Q33 => ?_)
        obtain ⟨rfl, e33⟩ := Q33
        obtain rfl := e33.symm
        refine px_goto (tgt := 55) dX12_hankTold_36 (by decide) ?_
        refine px_iretI dX12_hankTold_55 rfl ?_
        exact ⟨by simp [f_hankTold, *], rfl⟩
    · skip
      refine px_aload_n dX12_hankTold_17 rfl rfl ?_
      refine mx_getA (k := 2) (j := 0) dX12_hankTold_18 gX12_7 (fun _ => rfl) ?_
      refine px_iload_n dX12_hankTold_21 rfl rfl ?_
      refine mx_iald (j := 0) (k := 2) _ dX12_hankTold_22 rfl rfl (by omega) (by decide) ?_
      refine px_goto (tgt := 55) dX12_hankTold_23 (by decide) ?_
      refine px_iretI dX12_hankTold_55 rfl ?_
      exact ⟨by simp [f_hankTold, *], rfl⟩
  · skip
    refine px_bipush (v := (-5)) dX12_hankTold_8 (by decide) ?_
    refine px_goto (tgt := 55) dX12_hankTold_10 (by decide) ?_
    refine px_iretI dX12_hankTold_55 rfl ?_
    exact ⟨by simp [f_hankTold, *], rfl⟩
set_option maxHeartbeats 4000000 in
set_option maxRecDepth 100000 in
theorem c_X12_force (G : Gt) (m : Nat) (h0 : Ht) (S : MS) (t : Int32)  : PC G (MPic G m h0) 2 Y12_force [.ref m, .int t] S 0 0 (ri (fun x S' => x = (f_force S t).1 ∧ S' = (f_force S t).2)) := by
  refine pc_of (ls := [some (.ref m), some (.int t), none]) (by decide +kernel) rfl (Nat.le_of_ble_eq_true rfl) ?_
  refine px_iload_n dX12_force_0 rfl rfl ?_
  refine px_iconst (v := 0) dX12_force_1 (by decide) ?_
  refine px_aload_n dX12_force_2 rfl rfl ?_
  refine mx_getI (k := 16) dX12_force_3 gX12_48 (fun _ => rfl) ?_
  refine px_iconst (v := 1) dX12_force_6 (by decide) ?_
  refine px_isub dX12_force_7 ?_
  refine px_pure3 dX12_force_8 lX12_109 (c_X12_in G _ _ _) (by decide) (Nat.le_of_ble_eq_true rfl) ?_
  refine px_if_ne (tgt := 17) dX12_force_11 (by decide) (fun H11 => ?_) (fun H11 => ?_)
  · skip
    refine px_aload_n dX12_force_17 rfl rfl ?_
    refine mx_getI (k := 17) dX12_force_18 gX12_229 (fun _ => rfl) ?_
    refine px_istore_n2 dX12_force_21 (by decide) rfl ?_
    refine px_aload_n dX12_force_22 rfl rfl ?_
    refine px_iload_n dX12_force_23 rfl rfl ?_
    refine mx_putI (k := 17) dX12_force_24 gX12_229 (by decide) rfl rfl ?_
    refine px_iload_n dX12_force_27 rfl rfl ?_
    refine px_iretI dX12_force_28 rfl ?_
    exact ⟨by simp [f_force, *], Eq.symm (by simp [f_force, *])⟩
  · skip
    refine px_bipush (v := (-2)) dX12_force_14 (by decide) ?_
    refine px_iretI dX12_force_16 rfl ?_
    exact ⟨by simp [f_force, *], Eq.symm (by simp [f_force, *])⟩
theorem k1ne {k : Int32} (H : ¬ mIn k 1 9 = 0) : ¬ k + 1 = 0 := by
  rw [mIn_1] at H
  intro e
  have e2 : k = -1 := by rw [← Int32.add_sub_cancel k 1, e]; decide
  rw [e2] at H
  exact H.1 (by decide)
set_option maxHeartbeats 4000000 in
set_option maxRecDepth 100000 in
theorem c_X12_between (G : Gt) (m : Nat) (h0 : Ht) (S : MS) (a b k : Int32) (n : Nat) (hH : S 1 0 = nI n) (hn : n ≤ 6) (hV : ∀ i, i < 6 → ∃ v, v < 9 ∧ S 4 i = nI v) : PC G (MPic G m h0) 3 Y12_between [.ref m, .int a, .int b, .int k] S 0 0 (ri (fun x S' => x = f_between S a b k ∧ S' = S)) := by
  refine pc_of (ls := [some (.ref m), some (.int a), some (.int b), some (.int k)]) (by decide +kernel) rfl (Nat.le_of_ble_eq_true rfl) ?_
  refine px_aload_n dX12_between_0 rfl rfl ?_
  refine px_iload_n dX12_between_1 rfl rfl ?_
  refine mx_callI1 dX12_between_2 lX12_116 rfl (c_X12_isHank G m h0 S _) (by decide) (Nat.le_of_ble_eq_true rfl) (fun x2 S2 Q2 => ?_)
  obtain ⟨rfl, e2⟩ := Q2
  obtain rfl := e2.symm
  refine px_if_eq (tgt := 51) dX12_between_5 (by decide) (fun H5 => ?_) (fun H5 => ?_)
  · skip
    refine px_bipush (v := (-2)) dX12_between_51 (by decide) ?_
    refine px_iretI dX12_between_53 rfl ?_
    exact ⟨by simp [f_between, *], rfl⟩
  · skip
    refine px_aload_n dX12_between_8 rfl rfl ?_
    refine px_iload_n dX12_between_9 rfl rfl ?_
    refine mx_callI1 dX12_between_10 lX12_116 rfl (c_X12_isHank G m h0 S _) (by decide) (Nat.le_of_ble_eq_true rfl) (fun x10 S10 Q10 => ?_)
    obtain ⟨rfl, e10⟩ := Q10
    obtain rfl := e10.symm
    refine px_if_eq (tgt := 51) dX12_between_13 (by decide) (fun H13 => ?_) (fun H13 => ?_)
    · skip
      refine px_bipush (v := (-2)) dX12_between_51 (by decide) ?_
      refine px_iretI dX12_between_53 rfl ?_
      exact ⟨by simp [f_between, *], rfl⟩
    · skip
      refine px_iload_n dX12_between_16 rfl rfl ?_
      refine px_iload_n dX12_between_17 rfl rfl ?_
      refine px_icmp_eq (tgt := 51) dX12_between_18 (by decide) (fun H18 => ?_) (fun H18 => ?_)
      · skip
        refine px_bipush (v := (-2)) dX12_between_51 (by decide) ?_
        refine px_iretI dX12_between_53 rfl ?_
        exact ⟨by simp [f_between, *], rfl⟩
      · skip
        refine px_iload_n dX12_between_21 rfl rfl ?_
        refine px_iconst (v := 1) dX12_between_22 (by decide) ?_
        refine px_bipush (v := 9) dX12_between_23 (by decide) ?_
        refine px_pure3 dX12_between_25 lX12_109 (c_X12_in G _ _ _) (by decide) (Nat.le_of_ble_eq_true rfl) ?_
        refine px_if_eq (tgt := 51) dX12_between_28 (by decide) (fun H28 => ?_) (fun H28 => ?_)
        · skip
          refine px_bipush (v := (-2)) dX12_between_51 (by decide) ?_
          refine px_iretI dX12_between_53 rfl ?_
          exact ⟨by simp [f_between, *], rfl⟩
        · skip
          obtain ⟨j, hj, ej, tj⟩ := hk_ix hH hn H5
          subst ej
          obtain ⟨i, hi, ei, ti⟩ := hk_ix hH hn H13
          subst ei
          refine px_iload_n dX12_between_31 rfl rfl ?_
          refine px_aload_n dX12_between_32 rfl rfl ?_
          refine px_iload_n dX12_between_33 rfl rfl ?_
          refine mx_callI1 dX12_between_34 lX12_146 rfl (c_shade G m h0 S j (by omega) hV) (by decide) (Nat.le_of_ble_eq_true rfl) (fun x34 S34 Q34 => ?_)
          obtain ⟨rfl, e34⟩ := Q34
          obtain rfl := e34.symm
          refine px_imul dX12_between_37 ?_
          refine px_aload_n dX12_between_38 rfl rfl ?_
          refine px_iload_n dX12_between_39 rfl rfl ?_
          refine mx_callI1 dX12_between_40 lX12_146 rfl (c_shade G m h0 S i (by omega) hV) (by decide) (Nat.le_of_ble_eq_true rfl) (fun x40 S40 Q40 => ?_)
          obtain ⟨rfl, e40⟩ := Q40
          obtain rfl := e40.symm
          refine px_iadd dX12_between_43 ?_
          refine px_iload_n dX12_between_44 rfl rfl ?_
          refine px_iconst (v := 1) dX12_between_45 (by decide) ?_
          refine px_iadd dX12_between_46 ?_
          refine px_idiv dX12_between_47 (k1ne H28) ?_
          refine px_goto (tgt := 53) dX12_between_48 (by decide) ?_
          refine px_iretI dX12_between_53 rfl ?_
          exact ⟨by simp [f_between, *], rfl⟩
set_option maxHeartbeats 4000000 in
set_option maxRecDepth 100000 in
theorem c_X12_taken (G : Gt) (m : Nat) (h0 : Ht) (S : MS) (c k : Int32) (n : Nat) (hC : S 6 0 = nI n) (hn : n ≤ 8) : PC G (MPic G m h0) 3 Y12_taken [.ref m, .int c, .int k] S 0 0 (ri (fun x S' => x = f_taken S c k ∧ S' = S)) := by
  refine pc_of (ls := [some (.ref m), some (.int c), some (.int k)]) (by decide +kernel) rfl (Nat.le_of_ble_eq_true rfl) ?_
  refine px_iload_n dX12_taken_0 rfl rfl ?_
  refine px_iconst (v := 0) dX12_taken_1 (by decide) ?_
  refine px_iconst (v := 5) dX12_taken_2 (by decide) ?_
  refine px_pure3 dX12_taken_3 lX12_109 (c_X12_in G _ _ _) (by decide) (Nat.le_of_ble_eq_true rfl) ?_
  refine px_if_ne (tgt := 12) dX12_taken_6 (by decide) (fun H6 => ?_) (fun H6 => ?_)
  · skip
    refine px_aload_n dX12_taken_12 rfl rfl ?_
    refine px_iload_n dX12_taken_13 rfl rfl ?_
    refine mx_callI1 dX12_taken_14 lX12_127 rfl (c_X12_isCoat G m h0 S _) (by decide) (Nat.le_of_ble_eq_true rfl) (fun x14 S14 Q14 => ?_)
    obtain ⟨rfl, e14⟩ := Q14
    obtain rfl := e14.symm
    refine px_if_ne (tgt := 23) dX12_taken_17 (by decide) (fun H17 => ?_) (fun H17 => ?_)
    · skip
      obtain ⟨j, hj, ej, tj⟩ := ct_ix hC hn H17
      subst ej
      refine px_aload_n dX12_taken_23 rfl rfl ?_
      refine mx_getA (k := 7) (j := 4) dX12_taken_24 gX12_22 (fun _ => rfl) ?_
      refine px_iload_n dX12_taken_27 rfl rfl ?_
      refine mx_iald (j := 4) (k := 7) _ dX12_taken_28 rfl rfl (by omega) (by decide) ?_
      refine px_iload_n dX12_taken_29 rfl rfl ?_
      refine px_pure2 dX12_taken_30 lX12_331 (c_X12_isUnder G _ _) (by decide) (Nat.le_of_ble_eq_true rfl) ?_
      refine px_if_eq (tgt := 45) dX12_taken_33 (by decide) (fun H33 => ?_) (fun H33 => ?_)
      · skip
        refine px_bipush (v := (-13)) dX12_taken_45 (by decide) ?_
        refine px_iretI dX12_taken_47 rfl ?_
        exact ⟨by simp [f_taken, *], rfl⟩
      · skip
        refine px_aload_n dX12_taken_36 rfl rfl ?_
        refine mx_getA (k := 10) (j := 7) dX12_taken_37 gX12_31 (fun _ => rfl) ?_
        refine px_iload_n dX12_taken_40 rfl rfl ?_
        refine mx_iald (j := 7) (k := 10) _ dX12_taken_41 rfl rfl (by omega) (by decide) ?_
        refine px_goto (tgt := 47) dX12_taken_42 (by decide) ?_
        refine px_iretI dX12_taken_47 rfl ?_
        exact ⟨by simp [f_taken, *], rfl⟩
    · skip
      refine px_bipush (v := (-11)) dX12_taken_20 (by decide) ?_
      refine px_iretI dX12_taken_22 rfl ?_
      exact ⟨by simp [f_taken, *], rfl⟩
  · skip
    refine px_bipush (v := (-2)) dX12_taken_9 (by decide) ?_
    refine px_iretI dX12_taken_11 rfl ?_
    exact ⟨by simp [f_taken, *], rfl⟩
