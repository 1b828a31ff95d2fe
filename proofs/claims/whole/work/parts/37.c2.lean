/-! THE CLASS: wool, text -/
theorem cp_X10_47 : Cond.methodLink RX10 47 arraycopyName ∈ tb := (tb_4 223 rfl rfl)
theorem cp_X5_48 : Cond.methodLink RX5 48 arraycopyName ∈ tb := (tb_4 188 rfl rfl)
theorem cp_X11_278 : Cond.methodLink RX11 278 arraycopyName ∈ tb := (tb_5 51 rfl rfl)
theorem cpy_fill {f g : Nat → Int32} {n : Nat} : va_cpy f g 0 0 n = fa_fill f g n := by
  funext k
  by_cases h : k < n
  · rw [fa_fill_in h]
    unfold va_cpy
    rw [if_pos (by omega)]
    congr 1
    omega
  · rw [fa_fill_out (by omega)]
    unfold va_cpy
    rw [if_neg (by omega)]
/-- what the wool holds lies within bounds -/
def WB (S : MS) : Prop := (∀ i, i < 6 → ∃ a, a ≤ 99 ∧ S 3 i = nI a) ∧ (∀ v, v < 9 → ∃ b, b ≤ 50 ∧ S 5 v = nI b) ∧ ∀ i, i < 6 → ∃ v, v < 9 ∧ S 4 i = nI v
theorem shade_ok {a b : Nat} (ha : a ≤ 99) (hb : b ≤ 50) : jMax (nI a - nI b) 0 = mHeld (nI a - nI b) 99 := by
  have e : (nI a - nI b).toInt = (a : Int) - b := by
    rw [fb_subI (by rw [nI_toInt' (by omega), nI_toInt' (by omega)]; omega) (by rw [nI_toInt' (by omega), nI_toInt' (by omega)]; omega), nI_toInt' (by omega), nI_toInt' (by omega)]
  have h0 : (0 : Int32).toInt = 0 := rfl
  have h9 : (99 : Int32).toInt = 99 := rfl
  unfold jMax mHeld
  simp only [i_lt, h0, h9, e]
  by_cases h : (a : Int) - b < 0
  · rw [if_pos h, if_pos h]
  · rw [if_neg h, if_neg h, if_neg (by omega)]
set_option maxHeartbeats 4000000 in
set_option maxRecDepth 100000 in
theorem c_X10_has (G : Gt) (m : Nat → Prop) (M0 : Nat → va_E) (Q : Qt) (S : MS) (v : Int32)  : PC G (CPic G m M0 Q) 2 Y10_has [.ref (Q.1 1 0), .int v] S 0 0 (ri (fun x S' => x = mHk S v ∧ S' = S)) := by
  refine pc_of (ls := [some (.ref (Q.1 1 0)), some (.int v)]) (by decide +kernel) rfl (Nat.le_of_ble_eq_true rfl) ?_
  refine px_iload_n dX10_has_0 rfl rfl ?_
  refine px_iconst (v := 0) dX10_has_1 (by decide) ?_
  refine px_aload_n dX10_has_2 rfl rfl ?_
  refine cx_get (k := 1) (i := 0) (f := 4) dX10_has_3 gX10_30 rfl Nat.one_pos rfl ?_
  refine px_iconst (v := 1) dX10_has_6 (by decide) ?_
  refine px_isub dX10_has_7 ?_
  refine px_pureN3 dX10_has_8 lX10_34 (c_X11_isWithin G _ _ _) (by decide) (Nat.le_of_ble_eq_true rfl) ?_
  refine px_iretZ dX10_has_11 rfl (narZ (mIn_01 _ _ _)) ?_
  exact ⟨rfl, rfl⟩
set_option maxHeartbeats 4000000 in
set_option maxRecDepth 100000 in
theorem c_X10_addHank (G : Gt) (m : Nat → Prop) (M0 : Nat → va_E) (Q : Qt) (S : MS) (o s v : Int32) (n : Nat) (hH : S 1 0 = nI n) (hn : n ≤ 6) : PC G (CPic G m M0 Q) 2 Y10_addHank [.ref (Q.1 1 0), .int o, .int s, .int v] S 0 0 (ri (fun x S' => x = (f_hank S o s v).1 ∧ S' = (f_hank S o s v).2)) := by
  have eN := hN_eq hH (by omega)
  refine pc_of (ls := [some (.ref (Q.1 1 0)), some (.int o), some (.int s), some (.int v)]) (by decide +kernel) rfl (Nat.le_of_ble_eq_true rfl) ?_
  refine px_iload_n dX10_addHank_0 rfl rfl ?_
  refine px_iconst (v := 0) dX10_addHank_1 (by decide) ?_
  refine px_bipush (v := 99) dX10_addHank_2 (by decide) ?_
  refine px_pureN3 dX10_addHank_4 lX10_34 (c_X11_isWithin G _ _ _) (by decide) (Nat.le_of_ble_eq_true rfl) ?_
  refine px_if_eq (tgt := 30) dX10_addHank_7 (by decide) (fun H7 => ?_) (fun H7 => ?_)
  · skip
    refine px_bipush (v := (-2)) dX10_addHank_30 (by decide) ?_
    refine px_iretI dX10_addHank_32 rfl ?_
    exact ⟨by simp [f_hank, up2_eq, up2_ne, upd, sub1, *], Eq.symm (by simp [f_hank, up2_ne, *])⟩
  · skip
    refine px_iload_n dX10_addHank_10 rfl rfl ?_
    refine px_iconst (v := 0) dX10_addHank_11 (by decide) ?_
    refine px_bipush (v := 99) dX10_addHank_12 (by decide) ?_
    refine px_pureN3 dX10_addHank_14 lX10_34 (c_X11_isWithin G _ _ _) (by decide) (Nat.le_of_ble_eq_true rfl) ?_
    refine px_if_eq (tgt := 30) dX10_addHank_17 (by decide) (fun H17 => ?_) (fun H17 => ?_)
    · skip
      refine px_bipush (v := (-2)) dX10_addHank_30 (by decide) ?_
      refine px_iretI dX10_addHank_32 rfl ?_
      exact ⟨by simp [f_hank, up2_eq, up2_ne, upd, sub1, *], Eq.symm (by simp [f_hank, up2_ne, *])⟩
    · skip
      refine px_iload_n dX10_addHank_20 rfl rfl ?_
      refine px_iconst (v := 0) dX10_addHank_21 (by decide) ?_
      refine px_bipush (v := 8) dX10_addHank_22 (by decide) ?_
      refine px_pureN3 dX10_addHank_24 lX10_34 (c_X11_isWithin G _ _ _) (by decide) (Nat.le_of_ble_eq_true rfl) ?_
      refine px_if_ne (tgt := 33) dX10_addHank_27 (by decide) (fun H27 => ?_) (fun H27 => ?_)
      · skip
        refine px_aload_n dX10_addHank_33 rfl rfl ?_
        refine cx_get (k := 1) (i := 0) (f := 4) dX10_addHank_34 gX10_30 rfl Nat.one_pos rfl ?_
        refine px_bipush (v := 6) dX10_addHank_37 (by decide) ?_
        refine px_icmp_lt (tgt := 45) dX10_addHank_39 (by decide) (fun H39 => ?_) (fun H39 => ?_)
        · skip
          rw [hH] at H39
          have n6 : n < 6 := lt_n (b := 6) (by omega) (by omega) H39
          have m6 : ¬ nI n = 6 := fun q => by have := eq_n (b := 6) (by omega) (by omega) q; omega
          refine px_aload_n dX10_addHank_45 rfl rfl ?_
          refine cx_get (k := 1) (i := 0) (f := 0) dX10_addHank_46 gX10_9 rfl Nat.one_pos rfl ?_
          refine px_aload_n dX10_addHank_49 rfl rfl ?_
          refine cx_get (k := 1) (i := 0) (f := 4) dX10_addHank_50 gX10_30 rfl Nat.one_pos rfl ?_
          refine px_iload_n dX10_addHank_53 rfl rfl ?_
          refine cx_iast (k := 2) (i := 0) (r := 2) (n) dX10_addHank_54 (fun _ _ => rfl) Nat.one_pos (by decide) rfl hH (by omega) (by decide) ?_
          refine px_aload_n dX10_addHank_55 rfl rfl ?_
          refine cx_get (k := 1) (i := 0) (f := 1) dX10_addHank_56 gX10_15 rfl Nat.one_pos rfl ?_
          refine px_aload_n dX10_addHank_59 rfl rfl ?_
          refine cx_get (k := 1) (i := 0) (f := 4) dX10_addHank_60 gX10_30 rfl Nat.one_pos rfl ?_
          refine px_iload_n dX10_addHank_63 rfl rfl ?_
          refine cx_iast (k := 3) (i := 0) (r := 3) (n) dX10_addHank_64 (fun _ _ => rfl) Nat.one_pos (by decide) rfl hH (by omega) (by decide) ?_
          refine px_aload_n dX10_addHank_65 rfl rfl ?_
          refine cx_get (k := 1) (i := 0) (f := 2) dX10_addHank_66 gX10_18 rfl Nat.one_pos rfl ?_
          refine px_aload_n dX10_addHank_69 rfl rfl ?_
          refine cx_get (k := 1) (i := 0) (f := 4) dX10_addHank_70 gX10_30 rfl Nat.one_pos rfl ?_
          refine px_iload_n dX10_addHank_73 rfl rfl ?_
          refine cx_iast (k := 4) (i := 0) (r := 4) (n) dX10_addHank_74 (fun _ _ => rfl) Nat.one_pos (by decide) rfl hH (by omega) (by decide) ?_
          refine px_aload_n dX10_addHank_75 rfl rfl ?_
          refine px_dup dX10_addHank_76 rfl ?_
          refine cx_get (k := 1) (i := 0) (f := 4) dX10_addHank_77 gX10_30 rfl Nat.one_pos rfl ?_
          refine px_iconst (v := 1) dX10_addHank_80 (by decide) ?_
          refine px_iadd dX10_addHank_81 ?_
          refine cx_put (k := 1) (i := 0) (f := 4) (r := 1) (j := 0) dX10_addHank_82 gX10_30 rfl Nat.one_pos (Nat.le_of_ble_eq_true rfl) (by decide) rfl (cpe_1_4 0 _) rfl rfl ?_
          refine px_aload_n dX10_addHank_85 rfl rfl ?_
          refine cx_get (k := 1) (i := 0) (f := 4) dX10_addHank_86 gX10_30 rfl Nat.one_pos rfl ?_
          refine px_iconst (v := 1) dX10_addHank_89 (by decide) ?_
          refine px_isub dX10_addHank_90 ?_
          refine px_iretI dX10_addHank_91 rfl ?_
          exact ⟨by simp [f_hank, up2_eq, up2_ne, upd, sub1, *], Eq.symm (by simp [f_hank, up2_ne, *])⟩
        · skip
          rw [hH] at H39
          have m6 : nI n = 6 := by rw [show n = 6 from by have := ge_n (a := n) (b := 6) (by omega) (by omega) H39; omega]; rfl
          refine px_bipush (v := (-4)) dX10_addHank_42 (by decide) ?_
          refine px_iretI dX10_addHank_44 rfl ?_
          exact ⟨by simp [f_hank, up2_eq, up2_ne, upd, sub1, *], Eq.symm (by simp [f_hank, up2_ne, *])⟩
      · skip
        refine px_bipush (v := (-2)) dX10_addHank_30 (by decide) ?_
        refine px_iretI dX10_addHank_32 rfl ?_
        exact ⟨by simp [f_hank, up2_eq, up2_ne, upd, sub1, *], Eq.symm (by simp [f_hank, up2_ne, *])⟩
set_option maxHeartbeats 4000000 in
set_option maxRecDepth 100000 in
theorem c_X10_fadedShade (G : Gt) (m : Nat → Prop) (M0 : Nat → va_E) (Q : Qt) (S : MS) (j : Nat) (hj : j < 6) (hW : WB S) : PC G (CPic G m M0 Q) 2 Y10_fadedShade [.ref (Q.1 1 0), .int (nI j)] S 0 0 (ri (fun x S' => x = mSh S j ∧ S' = S)) := by
  obtain ⟨a, ha, ea⟩ := hW.1 j hj
  obtain ⟨v, hv, ev⟩ := hW.2.2 j hj
  obtain ⟨b, hb, eb⟩ := hW.2.1 v hv
  refine pc_of (ls := [some (.ref (Q.1 1 0)), some (.int (nI j))]) (by decide +kernel) rfl (Nat.le_of_ble_eq_true rfl) ?_
  refine px_aload_n dX10_fadedShade_0 rfl rfl ?_
  refine cx_get (k := 1) (i := 0) (f := 1) dX10_fadedShade_1 gX10_15 rfl Nat.one_pos rfl ?_
  refine px_iload_n dX10_fadedShade_4 rfl rfl ?_
  refine cx_iald (k := 3) (i := 0) (r := 3) _ dX10_fadedShade_5 rfl Nat.one_pos rfl (by omega) (by decide) ?_
  refine px_aload_n dX10_fadedShade_6 rfl rfl ?_
  refine cx_get (k := 1) (i := 0) (f := 3) dX10_fadedShade_7 gX10_21 rfl Nat.one_pos rfl ?_
  refine px_aload_n dX10_fadedShade_10 rfl rfl ?_
  refine cx_get (k := 1) (i := 0) (f := 2) dX10_fadedShade_11 gX10_18 rfl Nat.one_pos rfl ?_
  refine px_iload_n dX10_fadedShade_14 rfl rfl ?_
  refine cx_iald (k := 4) (i := 0) (r := 4) _ dX10_fadedShade_15 rfl Nat.one_pos rfl (by omega) (by decide) ?_
  refine cx_iald (k := 5) (i := 0) (r := 5) (v) dX10_fadedShade_16 rfl Nat.one_pos ev (by omega) (by decide) ?_
  refine px_isub dX10_fadedShade_17 ?_
  refine px_iconst (v := 0) dX10_fadedShade_18 (by decide) ?_
  refine px_pure2 dX10_fadedShade_19 lX10_38 (c_J9_max_7cf53 G _ _) (by decide) (Nat.le_of_ble_eq_true rfl) ?_
  refine px_iretI dX10_fadedShade_22 rfl ?_
  exact ⟨by unfold mSh; rw [ev, nI_clamp (by omega), ea, eb]; exact shade_ok ha hb, rfl⟩
set_option maxHeartbeats 4000000 in
set_option maxRecDepth 100000 in
theorem lp_ouA (G : Gt) (m : Nat → Prop) (M0 : Nat → va_E) (Q : Qt) (S : MS) (n : Nat) (hH : S 1 0 = nI n) (hn : n ≤ 6) (Post : Option Value → MS → Prop) (K : PX G (CPic G m M0 Q) 1 Y10_ouncesInAll 27 [some (.ref (Q.1 1 0)), some (.int (mAllS S n)), some (.int (nI n))] [] (S) 0 0 Post) : ∀ (kk h : Nat), h ≤ n → n + 1 ≤ h + kk → PX G (CPic G m M0 Q) 1 Y10_ouncesInAll 4 [some (.ref (Q.1 1 0)), some (.int (mAllS S h)), some (.int (nI h))] [] (S) 0 0 Post := by
  intro kk
  induction kk with
  | zero => intro h h1 h2; omega
  | succ kk ih =>
    intro h h1 h2
    refine px_iload_n dX10_ouncesInAll_4 rfl rfl ?_
    refine px_aload_n dX10_ouncesInAll_5 rfl rfl ?_
    refine cx_get (k := 1) (i := 0) (f := 4) dX10_ouncesInAll_6 gX10_30 rfl Nat.one_pos rfl ?_
    refine px_icmp_ge (tgt := 27) dX10_ouncesInAll_9 (by decide) (fun H9 => ?_) (fun H9 => ?_)
    · skip
      rw [hH] at H9
      have eN : h = n := by have := ge_n (a := h) (b := n) (by omega) (by omega) H9; omega
      rw [eN]
      exact K
    · skip
      rw [hH] at H9
      have lN : h < n := lt_n (a := h) (b := n) (by omega) (by omega) H9
      refine px_iload_n dX10_ouncesInAll_12 rfl rfl ?_
      refine px_aload_n dX10_ouncesInAll_13 rfl rfl ?_
      refine cx_get (k := 1) (i := 0) (f := 0) dX10_ouncesInAll_14 gX10_9 rfl Nat.one_pos rfl ?_
      refine px_iload_n dX10_ouncesInAll_17 rfl rfl ?_
      refine cx_iald (k := 2) (i := 0) (r := 2) _ dX10_ouncesInAll_18 rfl Nat.one_pos rfl (by omega) (by decide) ?_
      refine px_iadd dX10_ouncesInAll_19 ?_
      refine px_istore_n1 dX10_ouncesInAll_20 (by decide) rfl ?_
      refine px_iinc_2 (v := 1) dX10_ouncesInAll_21 (by decide) (by decide) rfl ?_
      refine px_goto (tgt := 4) dX10_ouncesInAll_24 (by decide) ?_
      refine px_lw (ls' := [some (.ref (Q.1 1 0)), some (.int (mAllS S (h + 1))), some (.int (nI (h + 1)))]) ?_ (ih (h + 1) (by omega) (by omega))
      (simp [LW, mAllS, nI_1, *]; done)
set_option maxHeartbeats 4000000 in
set_option maxRecDepth 100000 in
theorem c_X10_ouncesInAll (G : Gt) (m : Nat → Prop) (M0 : Nat → va_E) (Q : Qt) (S : MS) (n : Nat) (hH : S 1 0 = nI n) (hn : n ≤ 6) : PC G (CPic G m M0 Q) 1 Y10_ouncesInAll [.ref (Q.1 1 0)] S 0 0 (ri (fun x S' => x = mAllS S n ∧ S' = S)) := by
  refine pc_of (ls := [some (.ref (Q.1 1 0)), none, none]) (by decide +kernel) rfl (Nat.le_of_ble_eq_true rfl) ?_
  refine px_iconst (v := 0) dX10_ouncesInAll_0 (by decide) ?_
  refine px_istore_n1 dX10_ouncesInAll_1 (by decide) rfl ?_
  refine px_iconst (v := 0) dX10_ouncesInAll_2 (by decide) ?_
  refine px_istore_n2 dX10_ouncesInAll_3 (by decide) rfl ?_
  refine lp_ouA G m M0 Q S n hH hn _ ?_ (n + 1) 0 (by omega) (by omega)
  refine px_iload_n dX10_ouncesInAll_27 rfl rfl ?_
  refine px_iretI dX10_ouncesInAll_28 rfl ?_
  exact ⟨rfl, rfl⟩
set_option maxHeartbeats 4000000 in
set_option maxRecDepth 100000 in
theorem lp_biA (G : Gt) (m : Nat → Prop) (M0 : Nat → va_E) (Q : Qt) (S : MS) (n : Nat) (hH : S 1 0 = nI n) (hn : n ≤ 6) (Post : Option Value → MS → Prop) (K : PX G (CPic G m M0 Q) 2 Y10_hanksInBits 38 [some (.ref (Q.1 1 0)), some (.int (mBS S n)), some (.int (nI n))] [] (S) 0 0 Post) : ∀ (kk h : Nat), h ≤ n → n + 1 ≤ h + kk → PX G (CPic G m M0 Q) 2 Y10_hanksInBits 4 [some (.ref (Q.1 1 0)), some (.int (mBS S h)), some (.int (nI h))] [] (S) 0 0 Post := by
  intro kk
  induction kk with
  | zero => intro h h1 h2; omega
  | succ kk ih =>
    intro h h1 h2
    refine px_iload_n dX10_hanksInBits_4 rfl rfl ?_
    refine px_aload_n dX10_hanksInBits_5 rfl rfl ?_
    refine cx_get (k := 1) (i := 0) (f := 4) dX10_hanksInBits_6 gX10_30 rfl Nat.one_pos rfl ?_
    refine px_icmp_ge (tgt := 38) dX10_hanksInBits_9 (by decide) (fun H9 => ?_) (fun H9 => ?_)
    · skip
      rw [hH] at H9
      have eN : h = n := by have := ge_n (a := h) (b := n) (by omega) (by omega) H9; omega
      rw [eN]
      exact K
    · skip
      rw [hH] at H9
      have lN : h < n := lt_n (a := h) (b := n) (by omega) (by omega) H9
      refine px_aload_n dX10_hanksInBits_12 rfl rfl ?_
      refine cx_get (k := 1) (i := 0) (f := 0) dX10_hanksInBits_13 gX10_9 rfl Nat.one_pos rfl ?_
      refine px_iload_n dX10_hanksInBits_16 rfl rfl ?_
      refine cx_iald (k := 2) (i := 0) (r := 2) _ dX10_hanksInBits_17 rfl Nat.one_pos rfl (by omega) (by decide) ?_
      refine px_iconst (v := 1) dX10_hanksInBits_18 (by decide) ?_
      refine px_iconst (v := 2) dX10_hanksInBits_19 (by decide) ?_
      refine px_pureN3 dX10_hanksInBits_20 lX10_34 (c_X11_isWithin G _ _ _) (by decide) (Nat.le_of_ble_eq_true rfl) ?_
      refine px_if_eq (tgt := 32) dX10_hanksInBits_23 (by decide) (fun H23 => ?_) (fun H23 => ?_)
      · skip
        refine px_iinc_2 (v := 1) dX10_hanksInBits_32 (by decide) (by decide) rfl ?_
        refine px_goto (tgt := 4) dX10_hanksInBits_35 (by decide) ?_
        refine px_lw (ls' := [some (.ref (Q.1 1 0)), some (.int (mBS S (h + 1))), some (.int (nI (h + 1)))]) ?_ (ih (h + 1) (by omega) (by omega))
        (simp [LW, mBS, nI_1, *]; done)
      · skip
        refine px_iload_n dX10_hanksInBits_26 rfl rfl ?_
        refine px_iconst (v := 1) dX10_hanksInBits_27 (by decide) ?_
        refine px_iload_n dX10_hanksInBits_28 rfl rfl ?_
        refine px_ishl dX10_hanksInBits_29 ?_
        refine px_ior dX10_hanksInBits_30 ?_
        refine px_istore_n1 dX10_hanksInBits_31 (by decide) rfl ?_
        refine px_iinc_2 (v := 1) dX10_hanksInBits_32 (by decide) (by decide) rfl ?_
        refine px_goto (tgt := 4) dX10_hanksInBits_35 (by decide) ?_
        refine px_lw (ls' := [some (.ref (Q.1 1 0)), some (.int (mBS S (h + 1))), some (.int (nI (h + 1)))]) ?_ (ih (h + 1) (by omega) (by omega))
        (simp [LW, mBS, nI_1, *]; done)
set_option maxHeartbeats 4000000 in
set_option maxRecDepth 100000 in
theorem c_X10_hanksInBits (G : Gt) (m : Nat → Prop) (M0 : Nat → va_E) (Q : Qt) (S : MS) (n : Nat) (hH : S 1 0 = nI n) (hn : n ≤ 6) : PC G (CPic G m M0 Q) 2 Y10_hanksInBits [.ref (Q.1 1 0)] S 0 0 (ri (fun x S' => x = mBS S n ∧ S' = S)) := by
  refine pc_of (ls := [some (.ref (Q.1 1 0)), none, none]) (by decide +kernel) rfl (Nat.le_of_ble_eq_true rfl) ?_
  refine px_iconst (v := 0) dX10_hanksInBits_0 (by decide) ?_
  refine px_istore_n1 dX10_hanksInBits_1 (by decide) rfl ?_
  refine px_iconst (v := 0) dX10_hanksInBits_2 (by decide) ?_
  refine px_istore_n2 dX10_hanksInBits_3 (by decide) rfl ?_
  refine lp_biA G m M0 Q S n hH hn _ ?_ (n + 1) 0 (by omega) (by omega)
  refine px_iload_n dX10_hanksInBits_38 rfl rfl ?_
  refine px_iretI dX10_hanksInBits_39 rfl ?_
  exact ⟨rfl, rfl⟩
set_option maxHeartbeats 4000000 in
set_option maxRecDepth 100000 in
theorem c_X10_keepImage (G : Gt) (m : Nat → Prop) (M0 : Nat → va_E) (Q : Qt) (S : MS)   : PC G (CPic G m M0 Q) 1 Y10_keepImage [.ref (Q.1 1 0)] S 0 0 (rv (fun S' => S' = setA (setA (up2 S 40 0 (S 1 0)) 43 (fa_fill (S 2) (S 43) 6)) 44 (fa_fill (S 5) (S 44) 9))) := by
  refine pc_of (ls := [some (.ref (Q.1 1 0))]) (by decide +kernel) rfl (Nat.le_of_ble_eq_true rfl) ?_
  refine px_aload_n dX10_keepImage_0 rfl rfl ?_
  refine px_aload_n dX10_keepImage_1 rfl rfl ?_
  refine cx_get (k := 1) (i := 0) (f := 4) dX10_keepImage_2 gX10_30 rfl Nat.one_pos rfl ?_
  refine cx_put (k := 1) (i := 0) (f := 7) (r := 40) (j := 0) dX10_keepImage_5 gX10_44 rfl Nat.one_pos (Nat.le_of_ble_eq_true rfl) (by decide) rfl (cpe_1_7 0 _) rfl rfl ?_
  refine px_aload_n dX10_keepImage_8 rfl rfl ?_
  refine cx_get (k := 1) (i := 0) (f := 0) dX10_keepImage_9 gX10_9 rfl Nat.one_pos rfl ?_
  refine px_iconst (v := 0) dX10_keepImage_12 (by decide) ?_
  refine px_aload_n dX10_keepImage_13 rfl rfl ?_
  refine cx_get (k := 1) (i := 0) (f := 5) dX10_keepImage_14 gX10_24 rfl Nat.one_pos rfl ?_
  refine px_iconst (v := 0) dX10_keepImage_17 (by decide) ?_
  refine px_bipush (v := 6) dX10_keepImage_18 (by decide) ?_
  refine cx_copy (k0 := 2) (i0 := 0) (k := 6) (i := 0) (r := 43) 0 0 6 dX10_keepImage_20 cp_X10_47 (by decide) rfl Nat.one_pos (fun _ _ => rfl) Nat.one_pos (by decide) (fun _ => rfl) rfl rfl rfl (by omega) (by omega) (by decide) (Nat.le_of_ble_eq_true rfl) ?_
  refine px_aload_n dX10_keepImage_23 rfl rfl ?_
  refine cx_get (k := 1) (i := 0) (f := 3) dX10_keepImage_24 gX10_21 rfl Nat.one_pos rfl ?_
  refine px_iconst (v := 0) dX10_keepImage_27 (by decide) ?_
  refine px_aload_n dX10_keepImage_28 rfl rfl ?_
  refine cx_get (k := 1) (i := 0) (f := 6) dX10_keepImage_29 gX10_27 rfl Nat.one_pos rfl ?_
  refine px_iconst (v := 0) dX10_keepImage_32 (by decide) ?_
  refine px_bipush (v := 9) dX10_keepImage_33 (by decide) ?_
  refine cx_copy (k0 := 5) (i0 := 0) (k := 7) (i := 0) (r := 44) 0 0 9 dX10_keepImage_35 cp_X10_47 (by decide) rfl Nat.one_pos (fun _ _ => rfl) Nat.one_pos (by decide) (fun _ => rfl) rfl rfl rfl (by omega) (by omega) (by decide) (Nat.le_of_ble_eq_true rfl) ?_
  refine px_return dX10_keepImage_38 rfl ?_
  exact by rw [← cpy_fill, ← cpy_fill]; rfl
set_option maxHeartbeats 4000000 in
set_option maxRecDepth 100000 in
theorem c_X10_layBack (G : Gt) (m : Nat → Prop) (M0 : Nat → va_E) (Q : Qt) (S : MS) (kh : Nat) (hK : S 40 0 = nI kh) (hk : kh ≤ 6) : PC G (CPic G m M0 Q) 1 Y10_layBack [.ref (Q.1 1 0)] S 0 0 (rv (fun S' => S' = setA (setA S 2 (fa_fill (S 43) (S 2) kh)) 5 (fa_fill (S 44) (S 5) 9))) := by
  refine pc_of (ls := [some (.ref (Q.1 1 0))]) (by decide +kernel) rfl (Nat.le_of_ble_eq_true rfl) ?_
  refine px_aload_n dX10_layBack_0 rfl rfl ?_
  refine cx_get (k := 1) (i := 0) (f := 5) dX10_layBack_1 gX10_24 rfl Nat.one_pos rfl ?_
  refine px_iconst (v := 0) dX10_layBack_4 (by decide) ?_
  refine px_aload_n dX10_layBack_5 rfl rfl ?_
  refine cx_get (k := 1) (i := 0) (f := 0) dX10_layBack_6 gX10_9 rfl Nat.one_pos rfl ?_
  refine px_iconst (v := 0) dX10_layBack_9 (by decide) ?_
  refine px_aload_n dX10_layBack_10 rfl rfl ?_
  refine cx_get (k := 1) (i := 0) (f := 7) dX10_layBack_11 gX10_44 rfl Nat.one_pos rfl ?_
  refine cx_copy (k0 := 6) (i0 := 0) (k := 2) (i := 0) (r := 2) 0 0 kh dX10_layBack_14 cp_X10_47 (by decide) rfl Nat.one_pos (fun _ _ => rfl) Nat.one_pos (by decide) (fun _ => rfl) rfl rfl hK (by omega) (by omega) (by decide) (Nat.le_of_ble_eq_true rfl) ?_
  refine px_aload_n dX10_layBack_17 rfl rfl ?_
  refine cx_get (k := 1) (i := 0) (f := 6) dX10_layBack_18 gX10_27 rfl Nat.one_pos rfl ?_
  refine px_iconst (v := 0) dX10_layBack_21 (by decide) ?_
  refine px_aload_n dX10_layBack_22 rfl rfl ?_
  refine cx_get (k := 1) (i := 0) (f := 3) dX10_layBack_23 gX10_21 rfl Nat.one_pos rfl ?_
  refine px_iconst (v := 0) dX10_layBack_26 (by decide) ?_
  refine px_bipush (v := 9) dX10_layBack_27 (by decide) ?_
  refine cx_copy (k0 := 7) (i0 := 0) (k := 5) (i := 0) (r := 5) 0 0 9 dX10_layBack_29 cp_X10_47 (by decide) rfl Nat.one_pos (fun _ _ => rfl) Nat.one_pos (by decide) (fun _ => rfl) rfl rfl rfl (by omega) (by omega) (by decide) (Nat.le_of_ble_eq_true rfl) ?_
  refine px_return dX10_layBack_32 rfl ?_
  exact by rw [← cpy_fill, ← cpy_fill]; rfl
def jOne (s v : Int32) : Int32 := if s = -10 then -v else if v = 0 then 1 else 0
def jTwo (s a b : Int32) : Int32 := if s = -12 then a * b else if s = -13 then a + b else if s = -14 then a - b else if s = -15 then (if a < b then 1 else 0) else if s = -16 then (if a = b then 1 else 0) else if s = -17 then (if a ≠ 0 ∧ b ≠ 0 then 1 else 0) else (if a ≠ 0 ∨ b ≠ 0 then 1 else 0)
/-- the code of a step -/
def enc (a w : Int32) : Int32 := if a = 1 then w else if a = 2 then -1 - w else if a = 3 then -11 else if a = 4 then -10 else if a = 5 then -18 else if a = 6 then -17 else if a = 43 then -13 else if a = 45 then -14 else if a = 60 then -15 else if a = 61 then -16 else -12
def aok (c : Int32 × Int32) : Prop := (c.1 = 1 ∧ ¬ c.2 < 0) ∨ (c.1 = 2 ∧ ∃ j, j < 6 ∧ c.2 = nI j) ∨ c.1 = 3 ∨ c.1 = 4 ∨ c.1 = 5 ∨ c.1 = 6 ∨ c.1 = 42 ∨ c.1 = 43 ∨ c.1 = 45 ∨ c.1 = 60 ∨ c.1 = 61
set_option maxHeartbeats 4000000 in
set_option maxRecDepth 100000 in
theorem c_X9_ofOne (G : Gt) (s v : Int32)  : PS G 1 Y9_ofOne [.int s, .int v] (jOne s v) := by
  refine ps_ofp (ls := [some (.int s), some (.int v)]) (by decide +kernel) rfl (Nat.le_of_ble_eq_true rfl) (fun h => ?_)
  refine px_iload_n dX9_ofOne_0 rfl rfl ?_
  refine px_bipush (v := (-10)) dX9_ofOne_1 (by decide) ?_
  refine px_icmp_ne (tgt := 9) dX9_ofOne_3 (by decide) (fun H3 => ?_) (fun H3 => ?_)
  · skip
    refine px_iload_n dX9_ofOne_9 rfl rfl ?_
    refine px_if_ne (tgt := 17) dX9_ofOne_10 (by decide) (fun H10 => ?_) (fun H10 => ?_)
    · skip
      refine px_iconst (v := 0) dX9_ofOne_17 (by decide) ?_
      refine px_iretI dX9_ofOne_18 rfl ?_
      exact ⟨by first | rfl | (simp [jOne, *]; done) | (simp_all [jOne]; done), rfl⟩
    · skip
      refine px_iconst (v := 1) dX9_ofOne_13 (by decide) ?_
      refine px_goto (tgt := 18) dX9_ofOne_14 (by decide) ?_
      refine px_iretI dX9_ofOne_18 rfl ?_
      exact ⟨by first | rfl | (simp [jOne, *]; done) | (simp_all [jOne]; done), rfl⟩
  · skip
    refine px_iload_n dX9_ofOne_6 rfl rfl ?_
    refine px_ineg dX9_ofOne_7 ?_
    refine px_iretI dX9_ofOne_8 rfl ?_
    exact ⟨by first | rfl | (simp [jOne, *]; done) | (simp_all [jOne]; done), rfl⟩
set_option maxHeartbeats 4000000 in
set_option maxRecDepth 100000 in
theorem c_X9_ofTwo (G : Gt) (s a b : Int32)  : PS G 1 Y9_ofTwo [.int s, .int a, .int b] (jTwo s a b) := by
  refine ps_ofp (ls := [some (.int s), some (.int a), some (.int b)]) (by decide +kernel) rfl (Nat.le_of_ble_eq_true rfl) (fun h => ?_)
  refine px_iload_n dX9_ofTwo_0 rfl rfl ?_
  rcases sw_m17_m12 (s) with H1 | H1 | H1 | H1 | H1 | H1 | H1
  · refine px_tableIn (off := 73) (tgt := 74) dX9_ofTwo_1 (by rw [H1]; decide) (by rw [H1]; decide) (by rw [H1]; rfl) (by decide) ?_
    subst H1
    refine px_iload_n dX9_ofTwo_74 rfl rfl ?_
    refine px_if_eq (tgt := 86) dX9_ofTwo_75 (by decide) (fun H75 => ?_) (fun H75 => ?_)
    · skip
      refine px_iconst (v := 0) dX9_ofTwo_86 (by decide) ?_
      refine px_iretI dX9_ofTwo_87 rfl ?_
      exact ⟨by first | rfl | (simp_all [jTwo]; done) | (simp [jTwo, *]; done), rfl⟩
    · skip
      refine px_iload_n dX9_ofTwo_78 rfl rfl ?_
      refine px_if_eq (tgt := 86) dX9_ofTwo_79 (by decide) (fun H79 => ?_) (fun H79 => ?_)
      · skip
        refine px_iconst (v := 0) dX9_ofTwo_86 (by decide) ?_
        refine px_iretI dX9_ofTwo_87 rfl ?_
        exact ⟨by first | rfl | (simp_all [jTwo]; done) | (simp [jTwo, *]; done), rfl⟩
      · skip
        refine px_iconst (v := 1) dX9_ofTwo_82 (by decide) ?_
        refine px_goto (tgt := 87) dX9_ofTwo_83 (by decide) ?_
        refine px_iretI dX9_ofTwo_87 rfl ?_
        exact ⟨by first | rfl | (simp_all [jTwo]; done) | (simp [jTwo, *]; done), rfl⟩
  · refine px_tableIn (off := 62) (tgt := 63) dX9_ofTwo_1 (by rw [H1]; decide) (by rw [H1]; decide) (by rw [H1]; rfl) (by decide) ?_
    subst H1
    refine px_iload_n dX9_ofTwo_63 rfl rfl ?_
    refine px_iload_n dX9_ofTwo_64 rfl rfl ?_
    refine px_icmp_ne (tgt := 72) dX9_ofTwo_65 (by decide) (fun H65 => ?_) (fun H65 => ?_)
    · skip
      refine px_iconst (v := 0) dX9_ofTwo_72 (by decide) ?_
      refine px_iretI dX9_ofTwo_73 rfl ?_
      exact ⟨by first | rfl | (simp_all [jTwo]; done) | (simp [jTwo, *]; done), rfl⟩
    · skip
      refine px_iconst (v := 1) dX9_ofTwo_68 (by decide) ?_
      refine px_goto (tgt := 73) dX9_ofTwo_69 (by decide) ?_
      refine px_iretI dX9_ofTwo_73 rfl ?_
      exact ⟨by first | rfl | (simp_all [jTwo]; done) | (simp [jTwo, *]; done), rfl⟩
  · refine px_tableIn (off := 51) (tgt := 52) dX9_ofTwo_1 (by rw [H1]; decide) (by rw [H1]; decide) (by rw [H1]; rfl) (by decide) ?_
    subst H1
    refine px_iload_n dX9_ofTwo_52 rfl rfl ?_
    refine px_iload_n dX9_ofTwo_53 rfl rfl ?_
    refine px_icmp_ge (tgt := 61) dX9_ofTwo_54 (by decide) (fun H54 => ?_) (fun H54 => ?_)
    · skip
      refine px_iconst (v := 0) dX9_ofTwo_61 (by decide) ?_
      refine px_iretI dX9_ofTwo_62 rfl ?_
      exact ⟨by first | rfl | (simp_all [jTwo]; done) | (simp [jTwo, *]; done), rfl⟩
    · skip
      refine px_iconst (v := 1) dX9_ofTwo_57 (by decide) ?_
      refine px_goto (tgt := 62) dX9_ofTwo_58 (by decide) ?_
      refine px_iretI dX9_ofTwo_62 rfl ?_
      exact ⟨by first | rfl | (simp_all [jTwo]; done) | (simp [jTwo, *]; done), rfl⟩
  · refine px_tableIn (off := 47) (tgt := 48) dX9_ofTwo_1 (by rw [H1]; decide) (by rw [H1]; decide) (by rw [H1]; rfl) (by decide) ?_
    subst H1
    refine px_iload_n dX9_ofTwo_48 rfl rfl ?_
    refine px_iload_n dX9_ofTwo_49 rfl rfl ?_
    refine px_isub dX9_ofTwo_50 ?_
    refine px_iretI dX9_ofTwo_51 rfl ?_
    exact ⟨by first | rfl | (simp_all [jTwo]; done) | (simp [jTwo, *]; done), rfl⟩
  · refine px_tableIn (off := 43) (tgt := 44) dX9_ofTwo_1 (by rw [H1]; decide) (by rw [H1]; decide) (by rw [H1]; rfl) (by decide) ?_
    subst H1
    refine px_iload_n dX9_ofTwo_44 rfl rfl ?_
    refine px_iload_n dX9_ofTwo_45 rfl rfl ?_
    refine px_iadd dX9_ofTwo_46 ?_
    refine px_iretI dX9_ofTwo_47 rfl ?_
    exact ⟨by first | rfl | (simp_all [jTwo]; done) | (simp [jTwo, *]; done), rfl⟩
  · refine px_tableIn (off := 39) (tgt := 40) dX9_ofTwo_1 (by rw [H1]; decide) (by rw [H1]; decide) (by rw [H1]; rfl) (by decide) ?_
    subst H1
    refine px_iload_n dX9_ofTwo_40 rfl rfl ?_
    refine px_iload_n dX9_ofTwo_41 rfl rfl ?_
    refine px_imul dX9_ofTwo_42 ?_
    refine px_iretI dX9_ofTwo_43 rfl ?_
    exact ⟨by first | rfl | (simp_all [jTwo]; done) | (simp [jTwo, *]; done), rfl⟩
  · refine px_tableOut (tgt := 88) dX9_ofTwo_1 H1 (by decide) ?_
    have N1_m17 : ¬ s = (-17) := by intro e9; rw [e9] at H1; revert H1; decide
    have N1_m16 : ¬ s = (-16) := by intro e9; rw [e9] at H1; revert H1; decide
    have N1_m15 : ¬ s = (-15) := by intro e9; rw [e9] at H1; revert H1; decide
    have N1_m14 : ¬ s = (-14) := by intro e9; rw [e9] at H1; revert H1; decide
    have N1_m13 : ¬ s = (-13) := by intro e9; rw [e9] at H1; revert H1; decide
    have N1_m12 : ¬ s = (-12) := by intro e9; rw [e9] at H1; revert H1; decide
    refine px_iload_n dX9_ofTwo_88 rfl rfl ?_
    refine px_if_ne (tgt := 96) dX9_ofTwo_89 (by decide) (fun H89 => ?_) (fun H89 => ?_)
    · skip
      refine px_iconst (v := 1) dX9_ofTwo_96 (by decide) ?_
      refine px_goto (tgt := 101) dX9_ofTwo_97 (by decide) ?_
      refine px_iretI dX9_ofTwo_101 rfl ?_
      exact ⟨by first | rfl | (simp_all [jTwo]; done) | (simp [jTwo, *]; done), rfl⟩
    · skip
      refine px_iload_n dX9_ofTwo_92 rfl rfl ?_
      refine px_if_eq (tgt := 100) dX9_ofTwo_93 (by decide) (fun H93 => ?_) (fun H93 => ?_)
      · skip
        refine px_iconst (v := 0) dX9_ofTwo_100 (by decide) ?_
        refine px_iretI dX9_ofTwo_101 rfl ?_
        exact ⟨by first | rfl | (simp_all [jTwo]; done) | (simp [jTwo, *]; done), rfl⟩
      · skip
        refine px_iconst (v := 1) dX9_ofTwo_96 (by decide) ?_
        refine px_goto (tgt := 101) dX9_ofTwo_97 (by decide) ?_
        refine px_iretI dX9_ofTwo_101 rfl ?_
        exact ⟨by first | rfl | (simp_all [jTwo]; done) | (simp [jTwo, *]; done), rfl⟩
/-- text t's list of steps L for w: where its codes lie -/
def TXC (S : MS) (t w : Nat) (L : List (Int32 × Int32)) : Prop := ∃ b e len : Nat, S 160 t = nI len ∧ len ≤ 160 ∧ (w = 0 → b = 0) ∧ (w ≠ 0 → S (150 + t) (w - 1) = nI b) ∧ S (150 + t) w = nI e ∧ b + L.length = e ∧ e ≤ len ∧ (∀ (k : Nat) (h : k < L.length), S (70 + t) (b + k) = enc L[k].1 L[k].2 ∧ aok L[k]) ∧ wf L 0
theorem nIm2 (k : Nat) : nI (k + 2) + -1 = nI (k + 1) := nIm (k + 2) (by omega)
theorem enc_two {a w x y : Int32} (h : a = 5 ∨ a = 6 ∨ a = 42 ∨ a = 43 ∨ a = 45 ∨ a = 60 ∨ a = 61) : enc a w < -11 ∧ enc a w < -6 ∧ jTwo (enc a w) x y = mTwo a x y := by
  rcases h with rfl | rfl | rfl | rfl | rfl | rfl | rfl
  · exact ⟨(by decide : (-18 : Int32) < -11), (by decide : (-18 : Int32) < -6), rfl⟩
  · exact ⟨(by decide : (-17 : Int32) < -11), (by decide : (-17 : Int32) < -6), rfl⟩
  · exact ⟨(by decide : (-12 : Int32) < -11), (by decide : (-12 : Int32) < -6), rfl⟩
  · exact ⟨(by decide : (-13 : Int32) < -11), (by decide : (-13 : Int32) < -6), rfl⟩
  · exact ⟨(by decide : (-14 : Int32) < -11), (by decide : (-14 : Int32) < -6), rfl⟩
  · exact ⟨(by decide : (-15 : Int32) < -11), (by decide : (-15 : Int32) < -6), rfl⟩
  · exact ⟨(by decide : (-16 : Int32) < -11), (by decide : (-16 : Int32) < -6), rfl⟩
theorem enc_two2 {fc : Nat → Int32} {a w x y : Int32} {r : List Int32} (h : a = 5 ∨ a = 6 ∨ a = 42 ∨ a = 43 ∨ a = 45 ∨ a = 60 ∨ a = 61) : op1 fc (a, w) (y :: x :: r) = mTwo a x y :: r := by
  rcases h with rfl | rfl | rfl | rfl | rfl | rfl | rfl <;> rfl
theorem wf_two {a w : Int32} {l : List (Int32 × Int32)} {n : Nat} (h : a = 5 ∨ a = 6 ∨ a = 42 ∨ a = 43 ∨ a = 45 ∨ a = 60 ∨ a = 61) (hw : wf ((a, w) :: l) n) : 2 ≤ n ∧ wf l (n - 1) := by
  rcases h with rfl | rfl | rfl | rfl | rfl | rfl | rfl <;> exact hw
theorem names_ge {j : Nat} (h : j < 6) : ¬ (-1 - nI j < -6) := by
  rcases (by omega : j = 0 ∨ j = 1 ∨ j = 2 ∨ j = 3 ∨ j = 4 ∨ j = 5) with rfl | rfl | rfl | rfl | rfl | rfl <;> decide
theorem names_lt {j : Nat} (h : j < 6) : -1 - nI j < 0 := by
  rcases (by omega : j = 0 ∨ j = 1 ∨ j = 2 ∨ j = 3 ∨ j = 4 ∨ j = 5) with rfl | rfl | rfl | rfl | rfl | rfl <;> decide
theorem names_sub {j : Nat} (h : j < 6) : -1 - (-1 - nI j) = nI j := by
  rcases (by omega : j = 0 ∨ j = 1 ∨ j = 2 ∨ j = 3 ∨ j = 4 ∨ j = 5) with rfl | rfl | rfl | rfl | rfl | rfl <;> decide
theorem ce_29 {G : Gt} {Q : Qt} {S S' : MS} {t : Nat} (e : S' 160 = S 160) : cE G Q S' 29 t = .inl (gC G 0, (S 160 t).toNatClampNeg, .inl (S' (70 + t))) := by
  show (.inl (gC G 0, (S' 160 t).toNatClampNeg, .inl (S' (70 + t))) : va_E) = _
  rw [e]
theorem ce_32 {G : Gt} {Q : Qt} {S S' : MS} {t : Nat} (e : S' 160 = S 160) : cE G Q S' 32 t = .inl (gC G 0, (S 160 t).toNatClampNeg, .inl (S' (90 + t))) := by
  show (.inl (gC G 0, (S' 160 t).toNatClampNeg, .inl (S' (90 + t))) : va_E) = _
  rw [e]
set_option maxHeartbeats 4000000 in
set_option maxRecDepth 100000 in
theorem lp_val (G : Gt) (m : Nat → Prop) (M0 : Nat → va_E) (Q : Qt) (S : MS) (t w len e : Nat) (ht : t < Q.2.2) (h6 : Q.2.2 ≤ 6) (hw3 : w < 3) (hlen : S 160 t = nI len) (hl160 : len ≤ 160) (he : S (150 + t) w = nI e) (hel : e ≤ len) (R : Int32) : ∀ (kk : Nat) (L : List (Int32 × Int32)) (st : List Int32) (p : Nat → Int32) (at_ : Nat), L.length < kk → at_ + L.length = e → (∀ (k : Nat) (h : k < L.length), S (70 + t) (at_ + k) = enc L[k].1 L[k].2 ∧ aok L[k]) → wf L st.length → st.length + L.length ≤ len → PL p st → (ev (S (80 + t)) L st).headD 0 = R → ∀ z4 : Option Value, PX G (CPic G m M0 Q) 2 Y9_valueOf 19 [some (.ref (Q.1 28 t)), some (.int (nI w)), some (.int (nI st.length)), some (.int (nI at_)), z4] [] (setA S (90 + t) p) 0 0 (ri (fun x S' => x = R ∧ fr [90 + t] S S')) := by
  intro kk
  induction kk with
  | zero => intro L st p at_ h1; omega
  | succ kk ih =>
    intro L st p at_ hkk hal hL hw hlen2 hp hR z4
    have h80 : setA S (90 + t) p (80 + t) = S (80 + t) := setA_ne (by omega)
    have h70 : setA S (90 + t) p (70 + t) = S (70 + t) := setA_ne (by omega)
    have h150 : setA S (90 + t) p (150 + t) = S (150 + t) := setA_ne (by omega)
    have h160 : setA S (90 + t) p 160 = S 160 := setA_ne (by omega)
    have hln : (setA S (90 + t) p 160 t).toNatClampNeg = len := by rw [h160, hlen, nI_clamp (by omega)]
    refine px_iload_n dX9_valueOf_19 rfl rfl ?_
    refine px_aload_n dX9_valueOf_20 rfl rfl ?_
    refine cx_get (k := 28) (i := t) (f := 1) dX9_valueOf_21 gX9_20 rfl (show t < Q.2.2 by omega) rfl ?_
    refine px_iload_n dX9_valueOf_24 rfl rfl ?_
    refine cx_iald (k := 30) (i := t) (r := (150 + t)) (w) dX9_valueOf_25 rfl (show t < Q.2.2 by omega) rfl (by omega) (by decide) ?_
    rw [h150, he]
    refine px_icmp_ge (tgt := 161) dX9_valueOf_26 (by decide) (fun H26 => ?_) (fun H26 => ?_)
    · skip
      have g1 := ge_n (by omega) (by omega) H26
      have n0 : L = [] := List.length_eq_zero_iff.mp (by omega)
      subst n0
      have l1 : st.length = 1 := hw
      obtain ⟨x, rfl⟩ : ∃ x, st = [x] := List.length_eq_one_iff.mp l1
      refine px_iload_n dX9_valueOf_161 rfl rfl ?_
      refine px_iconst (v := 1) dX9_valueOf_162 (by decide) ?_
      refine px_icmp_lt (tgt := 177) dX9_valueOf_163 (by decide) (fun H163 => ?_) (fun H163 => ?_)
      · skip
        exact absurd (show nI 1 < 1 from H163) (by decide)
      · skip
        refine px_aload_n dX9_valueOf_166 rfl rfl ?_
        refine cx_get (k := 28) (i := t) (f := 2) dX9_valueOf_167 gX9_23 rfl (show t < Q.2.2 by omega) rfl ?_
        refine px_iload_n dX9_valueOf_170 rfl rfl ?_
        refine px_iconst (v := 1) dX9_valueOf_171 (by decide) ?_
        refine px_isub dX9_valueOf_172 ?_
        refine cx_iald (k := 32) (i := t) (r := (90 + t)) (0) dX9_valueOf_173 rfl (show t < Q.2.2 by omega) (by show nI 1 - 1 = nI 0; decide) (by rw [hln]; simp only [List.length_cons, List.length_nil] at hlen2; omega) (by rw [hln]; omega) ?_
        refine px_goto (tgt := 178) dX9_valueOf_174 (by decide) ?_
        refine px_iretI dX9_valueOf_178 rfl ?_
        exact ⟨by rw [← hR, setA_eq]; exact hp.1, fun k hk => setA_ne (fun e9 => hk (by rw [e9]; exact List.mem_singleton.mpr rfl))⟩
    · skip
      have g1 := lt_n (by omega) (by omega) H26
      obtain ⟨c, L, rfl⟩ : ∃ c l, L = c :: l := List.exists_cons_of_length_pos (by omega)
      simp only [List.length_cons] at hkk
      refine px_aload_n dX9_valueOf_29 rfl rfl ?_
      refine cx_get (k := 28) (i := t) (f := 0) dX9_valueOf_30 gX9_17 rfl (show t < Q.2.2 by omega) rfl ?_
      refine px_iload_n dX9_valueOf_33 rfl rfl ?_
      refine cx_iald (k := 29) (i := t) (r := (70 + t)) (at_) dX9_valueOf_34 rfl (show t < Q.2.2 by omega) rfl (by rw [hln]; simp only [List.length_cons] at hal; omega) (by rw [hln]; omega) ?_
      rw [h70]
      refine px_istore_4 dX9_valueOf_35 (by decide) rfl ?_
      have hop := hL 0 (by simp)
      simp only [List.getElem_cons_zero, Nat.add_zero] at hop
      obtain ⟨hz, hok⟩ := hop
      obtain ⟨ca, cw⟩ := c
      simp only [ev] at hR
      have hL2 : ∀ (k : Nat) (h : k < L.length), S (70 + t) (at_ + 1 + k) = enc L[k].1 L[k].2 ∧ aok L[k] := fun k h => by
        have := hL (k + 1) (by simp only [List.length_cons]; omega)
        rw [show at_ + 1 + k = at_ + (k + 1) by omega]
        exact this
      simp only [List.length_cons] at hlen2 hal
      simp only at hz hok
      rcases hok with ⟨h1, hnn⟩ | ⟨h1, j, hj6, hj⟩ | h1 | h1 | h1
      · skip
        subst h1
        have hz1 : S (70 + t) at_ = cw := hz
        have hw1 : wf L (st.length + 1) := hw
        have hR1 : (ev (S (80 + t)) L (cw :: st)).headD 0 = R := hR
        refine px_iload dX9_valueOf_37 rfl ?_
        refine px_bipush (v := (-6)) dX9_valueOf_39 (by decide) ?_
        refine px_icmp_lt (tgt := 84) dX9_valueOf_41 (by decide) (fun H41 => ?_) (fun H41 => ?_)
        · skip
          rw [hz1] at H41; exact absurd (i_lt.mpr (by have := i_lt.mp H41; rw [show (-6 : Int32).toInt = -6 from rfl] at this; rw [show (0 : Int32).toInt = 0 from rfl]; omega)) (show ¬ cw < 0 from hnn)
        · skip
          refine px_iload_n dX9_valueOf_44 rfl rfl ?_
          refine px_aload_n dX9_valueOf_45 rfl rfl ?_
          refine cx_get (k := 28) (i := t) (f := 2) dX9_valueOf_46 gX9_23 rfl (show t < Q.2.2 by omega) rfl ?_
          refine cx_alen (k := 32) (i := t) (t := 0) (n := 0) (v := (nI len)) dX9_valueOf_49 rfl (show t < Q.2.2 by omega) rfl (congrArg Int32.ofNat hln) ?_
          refine px_icmp_ge (tgt := 84) dX9_valueOf_50 (by decide) (fun H50 => ?_) (fun H50 => ?_)
          · skip
            exact absurd (ge_n (by omega) (by omega) H50) (by omega)
          · skip
            refine px_aload_n dX9_valueOf_53 rfl rfl ?_
            refine cx_get (k := 28) (i := t) (f := 2) dX9_valueOf_54 gX9_23 rfl (show t < Q.2.2 by omega) rfl ?_
            refine px_iload_n dX9_valueOf_57 rfl rfl ?_
            refine px_iload dX9_valueOf_58 rfl ?_
            refine px_if_lt (tgt := 68) dX9_valueOf_60 (by decide) (fun H60 => ?_) (fun H60 => ?_)
            · skip
              rw [hz1] at H60; exact absurd H60 hnn
            · skip
              refine px_iload dX9_valueOf_63 rfl ?_
              refine px_goto (tgt := 77) dX9_valueOf_65 (by decide) ?_
              refine cx_iast (k := 32) (i := t) (r := (90 + t)) (st.length) dX9_valueOf_77 (fun S' e9 => ce_32 e9) (show t < Q.2.2 by omega) (by omega) (ow_70 (by omega) _).2.2.1 rfl (by rw [hln]; omega) (by rw [hln]; omega) ?_
              refine px_iinc_2 (v := 1) dX9_valueOf_78 (by decide) (by decide) rfl ?_
              refine px_goto (tgt := 155) dX9_valueOf_81 (by decide) ?_
              refine px_iinc_3 (v := 1) dX9_valueOf_155 (by decide) (by decide) rfl ?_
              refine px_goto (tgt := 19) dX9_valueOf_158 (by decide) ?_
              exact px_S setA_up (px_lw (by simp [LW, nI_1, nIm2]) (ih L (cw :: st) _ (at_ + 1) (by omega) (by omega) hL2 hw1 (by simp only [List.length_cons]; omega) (by rw [hz1]; exact hp.push) hR1 (some (.int (S (70 + t) at_)))))
      · skip
        subst h1
        subst hj
        have hz1 : S (70 + t) at_ = -1 - nI j := hz
        have hw1 : wf L (st.length + 1) := hw.2
        have hR1 : (ev (S (80 + t)) L (S (80 + t) j :: st)).headD 0 = R := by rw [← hR, show op1 (S (80 + t)) (2, nI j) st = S (80 + t) j :: st from by simp [op1, nI_clamp (show j < 2 ^ 31 by omega)]]
        refine px_iload dX9_valueOf_37 rfl ?_
        refine px_bipush (v := (-6)) dX9_valueOf_39 (by decide) ?_
        refine px_icmp_lt (tgt := 84) dX9_valueOf_41 (by decide) (fun H41 => ?_) (fun H41 => ?_)
        · skip
          rw [hz1] at H41; exact absurd H41 (names_ge hj6)
        · skip
          refine px_iload_n dX9_valueOf_44 rfl rfl ?_
          refine px_aload_n dX9_valueOf_45 rfl rfl ?_
          refine cx_get (k := 28) (i := t) (f := 2) dX9_valueOf_46 gX9_23 rfl (show t < Q.2.2 by omega) rfl ?_
          refine cx_alen (k := 32) (i := t) (t := 0) (n := 0) (v := (nI len)) dX9_valueOf_49 rfl (show t < Q.2.2 by omega) rfl (congrArg Int32.ofNat hln) ?_
          refine px_icmp_ge (tgt := 84) dX9_valueOf_50 (by decide) (fun H50 => ?_) (fun H50 => ?_)
          · skip
            exact absurd (ge_n (by omega) (by omega) H50) (by omega)
          · skip
            refine px_aload_n dX9_valueOf_53 rfl rfl ?_
            refine cx_get (k := 28) (i := t) (f := 2) dX9_valueOf_54 gX9_23 rfl (show t < Q.2.2 by omega) rfl ?_
            refine px_iload_n dX9_valueOf_57 rfl rfl ?_
            refine px_iload dX9_valueOf_58 rfl ?_
            refine px_if_lt (tgt := 68) dX9_valueOf_60 (by decide) (fun H60 => ?_) (fun H60 => ?_)
            · skip
              refine px_aload_n dX9_valueOf_68 rfl rfl ?_
              refine cx_get (k := 28) (i := t) (f := 3) dX9_valueOf_69 gX9_11 rfl (show t < Q.2.2 by omega) rfl ?_
              refine px_iconst (v := (-1)) dX9_valueOf_72 (by decide) ?_
              refine px_iload dX9_valueOf_73 rfl ?_
              refine px_isub dX9_valueOf_75 ?_
              refine cx_iald (k := 31) (i := t) (r := (80 + t)) (j) dX9_valueOf_76 rfl (show t < Q.2.2 by omega) (by rw [hz1]; exact names_sub hj6) (by omega) (by decide) ?_
              refine cx_iast (k := 32) (i := t) (r := (90 + t)) (st.length) dX9_valueOf_77 (fun S' e9 => ce_32 e9) (show t < Q.2.2 by omega) (by omega) (ow_70 (by omega) _).2.2.1 rfl (by rw [hln]; omega) (by rw [hln]; omega) ?_
              refine px_iinc_2 (v := 1) dX9_valueOf_78 (by decide) (by decide) rfl ?_
              refine px_goto (tgt := 155) dX9_valueOf_81 (by decide) ?_
              refine px_iinc_3 (v := 1) dX9_valueOf_155 (by decide) (by decide) rfl ?_
              refine px_goto (tgt := 19) dX9_valueOf_158 (by decide) ?_
              exact px_S setA_up (px_lw (by simp [LW, nI_1, nIm2]) (ih L (S (80 + t) j :: st) _ (at_ + 1) (by omega) (by omega) hL2 hw1 (by simp only [List.length_cons]; omega) (by rw [h80]; exact hp.push) hR1 (some (.int (S (70 + t) at_)))))
            · skip
              rw [hz1] at H60; exact absurd (names_lt hj6) H60
      · skip
        subst h1
        have hz1 : S (70 + t) at_ = -11 := hz
        have hw1 : 1 ≤ st.length ∧ wf L st.length := hw
        obtain ⟨x, r, rfl⟩ : ∃ x r, st = x :: r := List.exists_cons_of_length_pos hw1.1
        simp only [List.length_cons] at hlen2 hw1
        have hR1 : (ev (S (80 + t)) L ((if x = 0 then 1 else 0) :: r)).headD 0 = R := hR
        refine px_iload dX9_valueOf_37 rfl ?_
        refine px_bipush (v := (-6)) dX9_valueOf_39 (by decide) ?_
        refine px_icmp_lt (tgt := 84) dX9_valueOf_41 (by decide) (fun H41 => ?_) (fun H41 => ?_)
        · skip
          refine px_iload dX9_valueOf_84 rfl ?_
          refine px_bipush (v := (-11)) dX9_valueOf_86 (by decide) ?_
          refine px_icmp_lt (tgt := 120) dX9_valueOf_88 (by decide) (fun H88 => ?_) (fun H88 => ?_)
          · skip
            rw [hz1] at H88; exact absurd H88 (by decide)
          · skip
            refine px_iload_n dX9_valueOf_91 rfl rfl ?_
            refine px_iconst (v := 1) dX9_valueOf_92 (by decide) ?_
            refine px_icmp_lt (tgt := 120) dX9_valueOf_93 (by decide) (fun H93 => ?_) (fun H93 => ?_)
            · skip
              exact absurd (lt_n (b := 1) (by simp only [List.length_cons]; omega) (by omega) H93) (by simp only [List.length_cons]; omega)
            · skip
              refine px_aload_n dX9_valueOf_96 rfl rfl ?_
              refine cx_get (k := 28) (i := t) (f := 2) dX9_valueOf_97 gX9_23 rfl (show t < Q.2.2 by omega) rfl ?_
              refine px_iload_n dX9_valueOf_100 rfl rfl ?_
              refine px_iconst (v := 1) dX9_valueOf_101 (by decide) ?_
              refine px_isub dX9_valueOf_102 ?_
              refine px_iload dX9_valueOf_103 rfl ?_
              refine px_aload_n dX9_valueOf_105 rfl rfl ?_
              refine cx_get (k := 28) (i := t) (f := 2) dX9_valueOf_106 gX9_23 rfl (show t < Q.2.2 by omega) rfl ?_
              refine px_iload_n dX9_valueOf_109 rfl rfl ?_
              refine px_iconst (v := 1) dX9_valueOf_110 (by decide) ?_
              refine px_isub dX9_valueOf_111 ?_
              refine cx_iald (k := 32) (i := t) (r := (90 + t)) (r.length) dX9_valueOf_112 rfl (show t < Q.2.2 by omega) (nI_pred _) (by rw [hln]; omega) (by rw [hln]; omega) ?_
              refine px_pure2 dX9_valueOf_113 lX9_82 (c_X9_ofOne G _ _) (by decide) (Nat.le_of_ble_eq_true rfl) ?_
              refine cx_iast (k := 32) (i := t) (r := (90 + t)) (r.length) dX9_valueOf_116 (fun S' e9 => ce_32 e9) (show t < Q.2.2 by omega) (by omega) (ow_70 (by omega) _).2.2.1 (nI_pred _) (by rw [hln]; omega) (by rw [hln]; omega) ?_
              refine px_goto (tgt := 155) dX9_valueOf_117 (by decide) ?_
              refine px_iinc_3 (v := 1) dX9_valueOf_155 (by decide) (by decide) rfl ?_
              refine px_goto (tgt := 19) dX9_valueOf_158 (by decide) ?_
              exact px_S setA_up (px_lw (by simp [LW, nI_1, nIm2]) (ih L ((if x = 0 then 1 else 0) :: r) _ (at_ + 1) (by omega) (by omega) hL2 hw1.2 (by simp only [List.length_cons]; omega) (by rw [show setA S (90 + t) p (90 + t) r.length = x from by rw [setA_eq]; exact hp.1, hz1]; exact hp.2.push) hR1 (some (.int (S (70 + t) at_)))))
        · skip
          rw [hz1] at H41; exact absurd (by decide) H41
      · skip
        subst h1
        have hz1 : S (70 + t) at_ = -10 := hz
        have hw1 : 1 ≤ st.length ∧ wf L st.length := hw
        obtain ⟨x, r, rfl⟩ : ∃ x r, st = x :: r := List.exists_cons_of_length_pos hw1.1
        simp only [List.length_cons] at hlen2 hw1
        have hR1 : (ev (S (80 + t)) L (-x :: r)).headD 0 = R := hR
        refine px_iload dX9_valueOf_37 rfl ?_
        refine px_bipush (v := (-6)) dX9_valueOf_39 (by decide) ?_
        refine px_icmp_lt (tgt := 84) dX9_valueOf_41 (by decide) (fun H41 => ?_) (fun H41 => ?_)
        · skip
          refine px_iload dX9_valueOf_84 rfl ?_
          refine px_bipush (v := (-11)) dX9_valueOf_86 (by decide) ?_
          refine px_icmp_lt (tgt := 120) dX9_valueOf_88 (by decide) (fun H88 => ?_) (fun H88 => ?_)
          · skip
            rw [hz1] at H88; exact absurd H88 (by decide)
          · skip
            refine px_iload_n dX9_valueOf_91 rfl rfl ?_
            refine px_iconst (v := 1) dX9_valueOf_92 (by decide) ?_
            refine px_icmp_lt (tgt := 120) dX9_valueOf_93 (by decide) (fun H93 => ?_) (fun H93 => ?_)
            · skip
              exact absurd (lt_n (b := 1) (by simp only [List.length_cons]; omega) (by omega) H93) (by simp only [List.length_cons]; omega)
            · skip
              refine px_aload_n dX9_valueOf_96 rfl rfl ?_
              refine cx_get (k := 28) (i := t) (f := 2) dX9_valueOf_97 gX9_23 rfl (show t < Q.2.2 by omega) rfl ?_
              refine px_iload_n dX9_valueOf_100 rfl rfl ?_
              refine px_iconst (v := 1) dX9_valueOf_101 (by decide) ?_
              refine px_isub dX9_valueOf_102 ?_
              refine px_iload dX9_valueOf_103 rfl ?_
              refine px_aload_n dX9_valueOf_105 rfl rfl ?_
              refine cx_get (k := 28) (i := t) (f := 2) dX9_valueOf_106 gX9_23 rfl (show t < Q.2.2 by omega) rfl ?_
              refine px_iload_n dX9_valueOf_109 rfl rfl ?_
              refine px_iconst (v := 1) dX9_valueOf_110 (by decide) ?_
              refine px_isub dX9_valueOf_111 ?_
              refine cx_iald (k := 32) (i := t) (r := (90 + t)) (r.length) dX9_valueOf_112 rfl (show t < Q.2.2 by omega) (nI_pred _) (by rw [hln]; omega) (by rw [hln]; omega) ?_
              refine px_pure2 dX9_valueOf_113 lX9_82 (c_X9_ofOne G _ _) (by decide) (Nat.le_of_ble_eq_true rfl) ?_
              refine cx_iast (k := 32) (i := t) (r := (90 + t)) (r.length) dX9_valueOf_116 (fun S' e9 => ce_32 e9) (show t < Q.2.2 by omega) (by omega) (ow_70 (by omega) _).2.2.1 (nI_pred _) (by rw [hln]; omega) (by rw [hln]; omega) ?_
              refine px_goto (tgt := 155) dX9_valueOf_117 (by decide) ?_
              refine px_iinc_3 (v := 1) dX9_valueOf_155 (by decide) (by decide) rfl ?_
              refine px_goto (tgt := 19) dX9_valueOf_158 (by decide) ?_
              exact px_S setA_up (px_lw (by simp [LW, nI_1, nIm2]) (ih L (-x :: r) _ (at_ + 1) (by omega) (by omega) hL2 hw1.2 (by simp only [List.length_cons]; omega) (by rw [show setA S (90 + t) p (90 + t) r.length = x from by rw [setA_eq]; exact hp.1, hz1]; exact hp.2.push) hR1 (some (.int (S (70 + t) at_)))))
        · skip
          rw [hz1] at H41; exact absurd (by decide) H41
      · skip
        have hz1 : S (70 + t) at_ = enc ca cw := hz
        obtain ⟨w1, w2⟩ := wf_two h1 hw
        obtain ⟨y, r0, rfl⟩ : ∃ x r, st = x :: r := List.exists_cons_of_length_pos (by omega)
        simp only [List.length_cons] at w1
        obtain ⟨x, r, rfl⟩ : ∃ x r, r0 = x :: r := List.exists_cons_of_length_pos (by omega)
        simp only [List.length_cons] at hlen2 w2
        rw [enc_two2 h1] at hR
        obtain ⟨n1, n2, n3⟩ := enc_two (w := cw) (x := x) (y := y) h1
        refine px_iload dX9_valueOf_37 rfl ?_
        refine px_bipush (v := (-6)) dX9_valueOf_39 (by decide) ?_
        refine px_icmp_lt (tgt := 84) dX9_valueOf_41 (by decide) (fun H41 => ?_) (fun H41 => ?_)
        · skip
          refine px_iload dX9_valueOf_84 rfl ?_
          refine px_bipush (v := (-11)) dX9_valueOf_86 (by decide) ?_
          refine px_icmp_lt (tgt := 120) dX9_valueOf_88 (by decide) (fun H88 => ?_) (fun H88 => ?_)
          · skip
            refine px_iload_n dX9_valueOf_120 rfl rfl ?_
            refine px_iconst (v := 2) dX9_valueOf_121 (by decide) ?_
            refine px_icmp_lt (tgt := 155) dX9_valueOf_122 (by decide) (fun H122 => ?_) (fun H122 => ?_)
            · skip
              exact absurd (lt_n (b := 2) (by simp only [List.length_cons]; omega) (by omega) H122) (by simp only [List.length_cons]; omega)
            · skip
              refine px_iinc_2 (v := (-1)) dX9_valueOf_125 (by decide) (by decide) rfl ?_
              refine px_aload_n dX9_valueOf_128 rfl rfl ?_
              refine cx_get (k := 28) (i := t) (f := 2) dX9_valueOf_129 gX9_23 rfl (show t < Q.2.2 by omega) rfl ?_
              refine px_iload_n dX9_valueOf_132 rfl rfl ?_
              refine px_iconst (v := 1) dX9_valueOf_133 (by decide) ?_
              refine px_isub dX9_valueOf_134 ?_
              refine px_iload dX9_valueOf_135 rfl ?_
              refine px_aload_n dX9_valueOf_137 rfl rfl ?_
              refine cx_get (k := 28) (i := t) (f := 2) dX9_valueOf_138 gX9_23 rfl (show t < Q.2.2 by omega) rfl ?_
              refine px_iload_n dX9_valueOf_141 rfl rfl ?_
              refine px_iconst (v := 1) dX9_valueOf_142 (by decide) ?_
              refine px_isub dX9_valueOf_143 ?_
              refine cx_iald (k := 32) (i := t) (r := (90 + t)) (r.length) dX9_valueOf_144 rfl (show t < Q.2.2 by omega) (by simp only [List.length_cons]; rw [nIm2]; exact nI_pred _) (by rw [hln]; omega) (by rw [hln]; omega) ?_
              refine px_aload_n dX9_valueOf_145 rfl rfl ?_
              refine cx_get (k := 28) (i := t) (f := 2) dX9_valueOf_146 gX9_23 rfl (show t < Q.2.2 by omega) rfl ?_
              refine px_iload_n dX9_valueOf_149 rfl rfl ?_
              refine cx_iald (k := 32) (i := t) (r := (90 + t)) (r.length + 1) dX9_valueOf_150 rfl (show t < Q.2.2 by omega) (by simp only [List.length_cons]; exact nIm2 _) (by rw [hln]; omega) (by rw [hln]; omega) ?_
              refine px_pure3 dX9_valueOf_151 lX9_85 (c_X9_ofTwo G _ _ _) (by decide) (Nat.le_of_ble_eq_true rfl) ?_
              refine cx_iast (k := 32) (i := t) (r := (90 + t)) (r.length) dX9_valueOf_154 (fun S' e9 => ce_32 e9) (show t < Q.2.2 by omega) (by omega) (ow_70 (by omega) _).2.2.1 (by simp only [List.length_cons]; rw [nIm2]; exact nI_pred _) (by rw [hln]; omega) (by rw [hln]; omega) ?_
              refine px_iinc_3 (v := 1) dX9_valueOf_155 (by decide) (by decide) rfl ?_
              refine px_goto (tgt := 19) dX9_valueOf_158 (by decide) ?_
              exact px_S setA_up (px_lw (by simp [LW, nI_1, nIm2]) (ih L (mTwo ca x y :: r) _ (at_ + 1) (by omega) (by omega) hL2 w2 (by simp only [List.length_cons]; omega) (by rw [show setA S (90 + t) p (90 + t) r.length = x from by rw [setA_eq]; exact hp.2.1, show setA S (90 + t) p (90 + t) (r.length + 1) = y from by rw [setA_eq]; exact hp.1, hz1, n3]; exact hp.2.2.push) hR (some (.int (S (70 + t) at_)))))
          · skip
            rw [hz1] at H88; exact absurd n1 H88
        · skip
          rw [hz1] at H41; exact absurd n2 H41
      -- end
set_option maxHeartbeats 4000000 in
set_option maxRecDepth 100000 in
theorem c_X9_valueOf (G : Gt) (m : Nat → Prop) (M0 : Nat → va_E) (Q : Qt) (S : MS) (t w : Nat) (L : List (Int32 × Int32)) (ht : t < Q.2.2) (h6 : Q.2.2 ≤ 6) (hw3 : w < 3) (hT : TXC S t w L) : PC G (CPic G m M0 Q) 2 Y9_valueOf [.ref (Q.1 28 t), .int (nI w)] S 0 0 (ri (fun x S' => x = (ev (S (80 + t)) L []).headD 0 ∧ fr [90 + t] S S')) := by
  obtain ⟨b, e, len, q1, q2, q3, q4, q5, q6, q7, q8, q9⟩ := hT
  refine pc_of (ls := [some (.ref (Q.1 28 t)), some (.int (nI w)), none, none, none]) (by decide +kernel) rfl (Nat.le_of_ble_eq_true rfl) ?_
  refine px_iconst (v := 0) dX9_valueOf_0 (by decide) ?_
  refine px_istore_n2 dX9_valueOf_1 (by decide) rfl ?_
  refine px_iload_n dX9_valueOf_2 rfl rfl ?_
  refine px_if_ne (tgt := 10) dX9_valueOf_3 (by decide) (fun H3 => ?_) (fun H3 => ?_)
  · skip
    have w0 : w ≠ 0 := ne_n (b := 0) (by omega) (by omega) H3
    refine px_aload_n dX9_valueOf_10 rfl rfl ?_
    refine cx_get (k := 28) (i := t) (f := 1) dX9_valueOf_11 gX9_20 rfl (show t < Q.2.2 by omega) rfl ?_
    refine px_iload_n dX9_valueOf_14 rfl rfl ?_
    refine px_iconst (v := 1) dX9_valueOf_15 (by decide) ?_
    refine px_isub dX9_valueOf_16 ?_
    refine cx_iald (k := 30) (i := t) (r := (150 + t)) (w - 1) dX9_valueOf_17 rfl (show t < Q.2.2 by omega) (nIs (by omega)) (by omega) (by decide) ?_
    rw [q4 w0]
    refine px_istore_n3 dX9_valueOf_18 (by decide) rfl ?_
    exact px_S setA_id.symm (lp_val G m M0 Q S _ _ len e ht h6 hw3 q1 q2 q5 q7 _ (L.length + 1) L [] (S (90 + t)) _ (by omega) q6 q8 q9 (by simp only [List.length_nil]; omega) trivial rfl _)
  · skip
    have w0 : w = 0 := eq_n (b := 0) (by omega) (by omega) H3
    obtain rfl := w0
    obtain rfl := q3 rfl
    refine px_iconst (v := 0) dX9_valueOf_6 (by decide) ?_
    refine px_goto (tgt := 18) dX9_valueOf_7 (by decide) ?_
    refine px_istore_n3 dX9_valueOf_18 (by decide) rfl ?_
    exact px_S setA_id.symm (lp_val G m M0 Q S _ _ len e ht h6 hw3 q1 q2 q5 q7 _ (L.length + 1) L [] (S (90 + t)) _ (by omega) q6 q8 q9 (by simp only [List.length_nil]; omega) trivial rfl _)
set_option maxHeartbeats 4000000 in
set_option maxRecDepth 100000 in
theorem c_X9_nameNumbers (G : Gt) (m : Nat → Prop) (M0 : Nat → va_E) (Q : Qt) (S : MS) (t : Nat) (a0 a1 a2 a3 a4 a5 : Int32) (ht : t < Q.2.2) (h6 : Q.2.2 ≤ 6) : PC G (CPic G m M0 Q) 1 Y9_nameNumbers [.ref (Q.1 28 t), .int a0, .int a1, .int a2, .int a3, .int a4, .int a5] S 0 0 (rv (fun S' => fr [80 + t] S S' ∧ ∀ i, i < 6 → S' (80 + t) i = fct a0 a1 a2 a3 a4 a5 i)) := by
  refine pc_of (ls := [some (.ref (Q.1 28 t)), some (.int a0), some (.int a1), some (.int a2), some (.int a3), some (.int a4), some (.int a5)]) (by decide +kernel) rfl (Nat.le_of_ble_eq_true rfl) ?_
  refine px_aload_n dX9_nameNumbers_0 rfl rfl ?_
  refine cx_get (k := 28) (i := t) (f := 3) dX9_nameNumbers_1 gX9_11 rfl (show t < Q.2.2 by omega) rfl ?_
  refine px_iconst (v := 0) dX9_nameNumbers_4 (by decide) ?_
  refine px_iload_n dX9_nameNumbers_5 rfl rfl ?_
  refine cx_iast (k := 31) (i := t) (r := (80 + t)) (0) dX9_nameNumbers_6 (fun _ _ => rfl) (show t < Q.2.2 by omega) (by omega) (ow_70 (by omega) _).2.1 rfl (by omega) (by decide) ?_
  refine px_aload_n dX9_nameNumbers_7 rfl rfl ?_
  refine cx_get (k := 28) (i := t) (f := 3) dX9_nameNumbers_8 gX9_11 rfl (show t < Q.2.2 by omega) rfl ?_
  refine px_iconst (v := 1) dX9_nameNumbers_11 (by decide) ?_
  refine px_iload_n dX9_nameNumbers_12 rfl rfl ?_
  refine cx_iast (k := 31) (i := t) (r := (80 + t)) (1) dX9_nameNumbers_13 (fun _ _ => rfl) (show t < Q.2.2 by omega) (by omega) (ow_70 (by omega) _).2.1 rfl (by omega) (by decide) ?_
  refine px_aload_n dX9_nameNumbers_14 rfl rfl ?_
  refine cx_get (k := 28) (i := t) (f := 3) dX9_nameNumbers_15 gX9_11 rfl (show t < Q.2.2 by omega) rfl ?_
  refine px_iconst (v := 2) dX9_nameNumbers_18 (by decide) ?_
  refine px_iload_n dX9_nameNumbers_19 rfl rfl ?_
  refine cx_iast (k := 31) (i := t) (r := (80 + t)) (2) dX9_nameNumbers_20 (fun _ _ => rfl) (show t < Q.2.2 by omega) (by omega) (ow_70 (by omega) _).2.1 rfl (by omega) (by decide) ?_
  refine px_aload_n dX9_nameNumbers_21 rfl rfl ?_
  refine cx_get (k := 28) (i := t) (f := 3) dX9_nameNumbers_22 gX9_11 rfl (show t < Q.2.2 by omega) rfl ?_
  refine px_iconst (v := 3) dX9_nameNumbers_25 (by decide) ?_
  refine px_iload dX9_nameNumbers_26 rfl ?_
  refine cx_iast (k := 31) (i := t) (r := (80 + t)) (3) dX9_nameNumbers_28 (fun _ _ => rfl) (show t < Q.2.2 by omega) (by omega) (ow_70 (by omega) _).2.1 rfl (by omega) (by decide) ?_
  refine px_aload_n dX9_nameNumbers_29 rfl rfl ?_
  refine cx_get (k := 28) (i := t) (f := 3) dX9_nameNumbers_30 gX9_11 rfl (show t < Q.2.2 by omega) rfl ?_
  refine px_iconst (v := 4) dX9_nameNumbers_33 (by decide) ?_
  refine px_iload dX9_nameNumbers_34 rfl ?_
  refine cx_iast (k := 31) (i := t) (r := (80 + t)) (4) dX9_nameNumbers_36 (fun _ _ => rfl) (show t < Q.2.2 by omega) (by omega) (ow_70 (by omega) _).2.1 rfl (by omega) (by decide) ?_
  refine px_aload_n dX9_nameNumbers_37 rfl rfl ?_
  refine cx_get (k := 28) (i := t) (f := 3) dX9_nameNumbers_38 gX9_11 rfl (show t < Q.2.2 by omega) rfl ?_
  refine px_iconst (v := 5) dX9_nameNumbers_41 (by decide) ?_
  refine px_iload dX9_nameNumbers_42 rfl ?_
  refine cx_iast (k := 31) (i := t) (r := (80 + t)) (5) dX9_nameNumbers_44 (fun _ _ => rfl) (show t < Q.2.2 by omega) (by omega) (ow_70 (by omega) _).2.1 rfl (by omega) (by decide) ?_
  refine px_return dX9_nameNumbers_45 rfl ?_
  have hm : 80 + t ∈ [80 + t] := List.mem_singleton.mpr rfl
  refine ⟨(((((fr.rf.up hm).up hm).up hm).up hm).up hm).up hm, fun i hi => ?_⟩
  rcases (by omega : i = 0 ∨ i = 1 ∨ i = 2 ∨ i = 3 ∨ i = 4 ∨ i = 5) with rfl | rfl | rfl | rfl | rfl | rfl <;> simp [up2, upd, fct]
/-- the lists of steps of text t -/
def tqL (S : MS) (t w : Nat) : List (Int32 × Int32) := if t = 0 then (if w = 0 then [(1, 0)] else if w = 1 then [(2, 1)] else [(2, 2)]) else tCode S t w
theorem tv_L {S : MS} {t w : Nat} {fc : Nat → Int32} (h : S 17 0 = nI t) (ht : t ≤ 5) (hw : w < 3) : tv S w fc = (ev fc (tqL S t w) []).headD 0 := by
  unfold tv tqL
  rw [h]
  by_cases h0 : t = 0
  · subst h0
    rw [if_pos (show nI 0 = 0 from rfl), if_pos rfl]
    rcases (by omega : w = 0 ∨ w = 1 ∨ w = 2) with rfl | rfl | rfl <;> rfl
  · rw [if_neg (fun e : nI t = 0 => h0 (eq_n (b := 0) (by omega) (by omega) e)), if_neg h0, nI_clamp (by omega)]
theorem jMin_n {a b : Nat} (ha : a ≤ 100000) (hb : b ≤ 100000) : jMin (nI a) (nI b) = nI (if a < b then a else b) := by
  unfold jMin
  by_cases h : a < b
  · rw [if_pos h, if_neg (fun q => by have := lt_n hb ha q; omega)]
  · rw [if_neg h]
    by_cases h2 : b < a
    · rw [if_pos ((nI_ltI (by omega) (by omega)).mpr h2)]
    · rw [if_neg (fun q => h2 (lt_n hb ha q)), show a = b by omega]
theorem lowO {q : Nat} (h : q < 6) : cLow.getD q 0 = mOne (nI q) := by
  rcases (by omega : q = 0 ∨ q = 1 ∨ q = 2 ∨ q = 3 ∨ q = 4 ∨ q = 5) with rfl | rfl | rfl | rfl | rfl | rfl <;> decide
theorem highO {q : Nat} (h : q < 6) : cHigh.getD q 0 = mOther (nI q) := by
  rcases (by omega : q = 0 ∨ q = 1 ∨ q = 2 ∨ q = 3 ∨ q = 4 ∨ q = 5) with rfl | rfl | rfl | rfl | rfl | rfl <;> decide
/-- text t is the rule, all of its lists lie as they are -/
def TX (S : MS) (Q : Qt) (t : Nat) : Prop := S 17 0 = nI t ∧ t < Q.2.2 ∧ Q.2.2 ≤ 6 ∧ ∀ w, w < 3 → TXC S t w (tqL S t w)
theorem tqL_go {S T : MS} {t w : Nat} (h18 : T 18 = S 18) (h19 : T 19 = S 19) (h20 : T 20 = S 20) : tqL T t w = tqL S t w := by
  unfold tqL tCode tBeg tEnd
  rw [h20]
  have e : ∀ n s, cs T s n = cs S s n := by
    intro n
    induction n with
    | zero => intro s; rfl
    | succ n ih => intro s; simp only [cs, h18, h19, ih]
  rw [e]
theorem TXC.go {S T : MS} {t w : Nat} {L : List (Int32 × Int32)} (h : TXC S t w L) (h1 : T 160 = S 160) (h2 : T (150 + t) = S (150 + t)) (h3 : T (70 + t) = S (70 + t)) : TXC T t w L := by
  unfold TXC
  rw [h1, h2, h3]
  exact h
theorem wf_fc {S : MS} {t w : Nat} {L : List (Int32 × Int32)} (h : TXC S t w L) : wf L 0 := by
  obtain ⟨b, e, len, -, -, -, -, -, -, -, -, h9⟩ := h
  exact h9
theorem tv_at {S T : MS} {Q : Qt} {t w : Nat} {fc : Nat → Int32} (hT : TX S Q t) (hw : w < 3) (nv : ∀ i, i < 6 → T (80 + t) i = fc i) : (ev (T (80 + t)) (tqL S t w) []).headD 0 = tv S w fc := by
  have h1 := hT.2.1
  have h2 := hT.2.2.1
  rw [tv_L hT.1 (by omega) hw]
  congr 1
  exact ev_congr nv (tqL S t w) [] (wf_fc (hT.2.2.2 w hw))
theorem seen_eq0 {S : MS} {f : Nat → Int32} {a b : Nat} : mSeen (setA S 2 f) a b = mHeld (tv S 1 (fct (f a + f b) (mAbs (mSh S a - mSh S b)) 0 0 (if S 4 a = S 4 b then 0 else 1) (if a < b then S 4 a else S 4 b))) 999 := by
  have e : ∀ fc, tv (setA S 2 f) 1 fc = tv S 1 fc := fun fc => tv_go (X := [2]) (fun k hk => setA_ne (by simpa using hk)) (by decide) (by decide) (by decide) (by decide)
  unfold mSeen
  rw [e]
  rfl
theorem ite_ap {S : MS} {a b : Nat} : S 4 (if a < b then a else b) = if a < b then S 4 a else S 4 b := by
  split <;> rfl
set_option maxHeartbeats 4000000 in
set_option maxRecDepth 100000 in
theorem c_X9_seenApart (G : Gt) (m : Nat → Prop) (M0 : Nat → va_E) (Q : Qt) (S : MS) (t ko io ro a b : Nat) (hT : TX S Q t) (hO : ∀ S' : MS, cE G Q S' ko io = .inl (gC G 0, 6, .inl (S' ro))) (hol : io < lim Q ko) (hW : WB S) (ha : a < 6) (hb : b < 6) (hab : a ≠ b) : PC G (CPic G m M0 Q) 3 Y9_seenApart [.ref (Q.1 28 t), .ref (Q.1 1 0), .ref (Q.1 ko io), .int (nI a), .int (nI b)] S 0 0 (ri (fun x S' => x = mSeen (setA S 2 (S ro)) a b ∧ fr [80 + t, 90 + t] S S')) := by
  have ht := hT.2.1
  have h6 := hT.2.2.1
  refine pc_of (ls := [some (.ref (Q.1 28 t)), some (.ref (Q.1 1 0)), some (.ref (Q.1 ko io)), some (.int (nI a)), some (.int (nI b)), none, none, none]) (by decide +kernel) rfl (Nat.le_of_ble_eq_true rfl) ?_
  refine px_aload_n dX9_seenApart_0 rfl rfl ?_
  refine px_iload_n dX9_seenApart_1 rfl rfl ?_
  refine cx_iald (k := ko) (i := io) (r := ro) (a) dX9_seenApart_2 (hO _) hol rfl (by omega) (by decide) ?_
  refine px_aload_n dX9_seenApart_3 rfl rfl ?_
  refine px_iload dX9_seenApart_4 rfl ?_
  refine cx_iald (k := ko) (i := io) (r := ro) (b) dX9_seenApart_6 (hO _) hol rfl (by omega) (by decide) ?_
  refine px_iadd dX9_seenApart_7 ?_
  refine px_istore_5 dX9_seenApart_8 (by decide) rfl ?_
  refine px_aload_n dX9_seenApart_10 rfl rfl ?_
  refine px_iload_n dX9_seenApart_11 rfl rfl ?_
  refine cx_callI1 (k := 1) (i := 0) dX9_seenApart_12 lX9_29 rfl Nat.one_pos rfl (c_X10_fadedShade G m M0 Q S a ha hW) (by decide) (Nat.le_of_ble_eq_true rfl) (fun x12 S12 Q12 => ?_)
  obtain ⟨rfl, e12⟩ := Q12
  obtain rfl := e12.symm
  refine px_aload_n dX9_seenApart_15 rfl rfl ?_
  refine px_iload dX9_seenApart_16 rfl ?_
  refine cx_callI1 (k := 1) (i := 0) dX9_seenApart_18 lX9_29 rfl Nat.one_pos rfl (c_X10_fadedShade G m M0 Q S b hb hW) (by decide) (Nat.le_of_ble_eq_true rfl) (fun x18 S18 Q18 => ?_)
  obtain ⟨rfl, e18⟩ := Q18
  obtain rfl := e18.symm
  refine px_isub dX9_seenApart_21 ?_
  refine px_pure1 dX9_seenApart_22 lX9_35 (c_J9_abs_0f7a4 G _) (by decide) (Nat.le_of_ble_eq_true rfl) ?_
  refine px_istore_6 dX9_seenApart_25 (by decide) rfl ?_
  refine px_aload_n dX9_seenApart_27 rfl rfl ?_
  refine cx_get (k := 1) (i := 0) (f := 2) dX9_seenApart_28 gX9_40 rfl Nat.one_pos rfl ?_
  refine px_iload_n dX9_seenApart_31 rfl rfl ?_
  refine cx_iald (k := 4) (i := 0) (r := 4) _ dX9_seenApart_32 rfl Nat.one_pos rfl (by omega) (by decide) ?_
  refine px_aload_n dX9_seenApart_33 rfl rfl ?_
  refine cx_get (k := 1) (i := 0) (f := 2) dX9_seenApart_34 gX9_40 rfl Nat.one_pos rfl ?_
  refine px_iload dX9_seenApart_37 rfl ?_
  refine cx_iald (k := 4) (i := 0) (r := 4) (b) dX9_seenApart_39 rfl Nat.one_pos rfl (by omega) (by decide) ?_
  refine px_icmp_ne (tgt := 47) dX9_seenApart_40 (by decide) (fun H40 => ?_) (fun H40 => ?_)
  · skip
    refine px_iconst (v := 1) dX9_seenApart_47 (by decide) ?_
    refine px_istore_7 dX9_seenApart_48 (by decide) rfl ?_
    refine px_aload_n dX9_seenApart_50 rfl rfl ?_
    refine px_iload dX9_seenApart_51 rfl ?_
    refine px_iload dX9_seenApart_53 rfl ?_
    refine px_iconst (v := 0) dX9_seenApart_55 (by decide) ?_
    refine px_iconst (v := 0) dX9_seenApart_56 (by decide) ?_
    refine px_iload dX9_seenApart_57 rfl ?_
    refine px_aload_n dX9_seenApart_59 rfl rfl ?_
    refine cx_get (k := 1) (i := 0) (f := 2) dX9_seenApart_60 gX9_40 rfl Nat.one_pos rfl ?_
    refine px_iload_n dX9_seenApart_63 rfl rfl ?_
    refine px_iload dX9_seenApart_64 rfl ?_
    refine px_pure2 dX9_seenApart_66 lX9_43 (c_J9_min_7cf53 G _ _) (by decide) (Nat.le_of_ble_eq_true rfl) ?_
    rw [jMin_n (by omega) (by omega)]
    refine cx_iald (k := 4) (i := 0) (r := 4) (if a < b then a else b) dX9_seenApart_69 rfl Nat.one_pos rfl (by split <;> omega) (by decide) ?_
    refine cx_callV6 (k := 28) (i := t) dX9_seenApart_70 lX9_47 rfl (show t < Q.2.2 by omega) rfl (c_X9_nameNumbers G m M0 Q S t _ _ _ _ _ _ ht h6) (by decide) (Nat.le_of_ble_eq_true rfl) (fun S70 Q70 => ?_)
    obtain ⟨nf0, nv⟩ := Q70
    have nf : ∀ {k : Nat}, k ∉ [80 + t] → S70 k = S k := fun hk => nf0 _ hk
    refine px_aload_n dX9_seenApart_73 rfl rfl ?_
    refine px_iconst (v := 1) dX9_seenApart_74 (by decide) ?_
    refine cx_callI1 (k := 28) (i := t) dX9_seenApart_75 lX9_51 rfl (show t < Q.2.2 by omega) rfl (c_X9_valueOf G m M0 Q S70 t 1 (tqL S t 1) ht h6 (by omega) ((hT.2.2.2 1 (by omega)).go (nf (by simp only [List.mem_singleton]; omega)) (nf (by simp only [List.mem_singleton]; omega)) (nf (by simp only [List.mem_singleton]; omega)))) (by decide) (Nat.le_of_ble_eq_true rfl) (fun x75 S75 Q75 => ?_)
    obtain ⟨rfl, g75⟩ := Q75
    rw [tv_at hT (by omega) nv]
    refine px_sipush (v := 999) dX9_seenApart_78 (by decide) ?_
    refine px_pureN2 dX9_seenApart_81 lX9_54 (c_X11_clamp G _ _) (by decide) (Nat.le_of_ble_eq_true rfl) ?_
    refine px_iretI dX9_seenApart_84 rfl ?_
    refine ⟨?_, (nf0.mono (by simp)).tr (g75.mono (by simp))⟩
    rw [clamp_held (by decide), seen_eq0, ite_ap (S := S) (a := a) (b := b)]
    first
    | rw [if_pos H40]
    | rw [if_neg H40]
  · skip
    refine px_iconst (v := 0) dX9_seenApart_43 (by decide) ?_
    refine px_goto (tgt := 48) dX9_seenApart_44 (by decide) ?_
    refine px_istore_7 dX9_seenApart_48 (by decide) rfl ?_
    refine px_aload_n dX9_seenApart_50 rfl rfl ?_
    refine px_iload dX9_seenApart_51 rfl ?_
    refine px_iload dX9_seenApart_53 rfl ?_
    refine px_iconst (v := 0) dX9_seenApart_55 (by decide) ?_
    refine px_iconst (v := 0) dX9_seenApart_56 (by decide) ?_
    refine px_iload dX9_seenApart_57 rfl ?_
    refine px_aload_n dX9_seenApart_59 rfl rfl ?_
    refine cx_get (k := 1) (i := 0) (f := 2) dX9_seenApart_60 gX9_40 rfl Nat.one_pos rfl ?_
    refine px_iload_n dX9_seenApart_63 rfl rfl ?_
    refine px_iload dX9_seenApart_64 rfl ?_
    refine px_pure2 dX9_seenApart_66 lX9_43 (c_J9_min_7cf53 G _ _) (by decide) (Nat.le_of_ble_eq_true rfl) ?_
    rw [jMin_n (by omega) (by omega)]
    refine cx_iald (k := 4) (i := 0) (r := 4) (if a < b then a else b) dX9_seenApart_69 rfl Nat.one_pos rfl (by split <;> omega) (by decide) ?_
    refine cx_callV6 (k := 28) (i := t) dX9_seenApart_70 lX9_47 rfl (show t < Q.2.2 by omega) rfl (c_X9_nameNumbers G m M0 Q S t _ _ _ _ _ _ ht h6) (by decide) (Nat.le_of_ble_eq_true rfl) (fun S70 Q70 => ?_)
    obtain ⟨nf0, nv⟩ := Q70
    have nf : ∀ {k : Nat}, k ∉ [80 + t] → S70 k = S k := fun hk => nf0 _ hk
    refine px_aload_n dX9_seenApart_73 rfl rfl ?_
    refine px_iconst (v := 1) dX9_seenApart_74 (by decide) ?_
    refine cx_callI1 (k := 28) (i := t) dX9_seenApart_75 lX9_51 rfl (show t < Q.2.2 by omega) rfl (c_X9_valueOf G m M0 Q S70 t 1 (tqL S t 1) ht h6 (by omega) ((hT.2.2.2 1 (by omega)).go (nf (by simp only [List.mem_singleton]; omega)) (nf (by simp only [List.mem_singleton]; omega)) (nf (by simp only [List.mem_singleton]; omega)))) (by decide) (Nat.le_of_ble_eq_true rfl) (fun x75 S75 Q75 => ?_)
    obtain ⟨rfl, g75⟩ := Q75
    rw [tv_at hT (by omega) nv]
    refine px_sipush (v := 999) dX9_seenApart_78 (by decide) ?_
    refine px_pureN2 dX9_seenApart_81 lX9_54 (c_X11_clamp G _ _) (by decide) (Nat.le_of_ble_eq_true rfl) ?_
    refine px_iretI dX9_seenApart_84 rfl ?_
    refine ⟨?_, (nf0.mono (by simp)).tr (g75.mono (by simp))⟩
    rw [clamp_held (by decide), seen_eq0, ite_ap (S := S) (a := a) (b := b)]
    first
    | rw [if_pos H40]
    | rw [if_neg H40]
set_option maxHeartbeats 4000000 in
set_option maxRecDepth 100000 in
theorem c_X9_bearsInAll (G : Gt) (m : Nat → Prop) (M0 : Nat → va_E) (Q : Qt) (S : MS) (t i q : Nat) (hT : TX S Q t) (hc : i < Q.2.1) (hk : KO S i) (hq : q < 6) : PC G (CPic G m M0 Q) 4 Y9_bearsInAll [.ref (Q.1 28 t), .ref (Q.1 33 i), .int (nI q)] S 0 0 (ri (fun x S' => x = mBe S i (nI q) + mBear S i (nI q) ∧ fr [80 + t, 90 + t] S S')) := by
  have ht := hT.2.1
  have h6 := hT.2.2.1
  refine pc_of (ls := [some (.ref (Q.1 28 t)), some (.ref (Q.1 33 i)), some (.int (nI q)), none, none]) (by decide +kernel) rfl (Nat.le_of_ble_eq_true rfl) ?_
  refine px_aload_n dX9_bearsInAll_0 rfl rfl ?_
  refine px_low dX9_bearsInAll_1 (by decide +kernel) ?_
  refine px_iload_n dX9_bearsInAll_4 rfl rfl ?_
  refine px_lowL q dX9_bearsInAll_5 rfl (by omega) (lowO (by omega)) ?_
  refine cx_callOI1 (k := 33) (i := i) dX9_bearsInAll_6 (ko_X9_60 _) rfl (show i < Q.2.1 by omega) (vk_cl _) (c_takesV G m M0 Q S i _ hc hk) (by decide) (Nat.le_of_ble_eq_true rfl) (fun x6 S6 Q6 => ?_)
  obtain ⟨rfl, e6⟩ := Q6
  obtain rfl := e6.symm
  refine px_aload_n dX9_bearsInAll_9 rfl rfl ?_
  refine px_high dX9_bearsInAll_10 (by decide +kernel) ?_
  refine px_iload_n dX9_bearsInAll_13 rfl rfl ?_
  refine px_highL q dX9_bearsInAll_14 rfl (by omega) (highO (by omega)) ?_
  refine cx_callOI1 (k := 33) (i := i) dX9_bearsInAll_15 (ko_X9_60 _) rfl (show i < Q.2.1 by omega) (vk_cl _) (c_takesV G m M0 Q S i _ hc hk) (by decide) (Nat.le_of_ble_eq_true rfl) (fun x15 S15 Q15 => ?_)
  obtain ⟨rfl, e15⟩ := Q15
  obtain rfl := e15.symm
  refine px_iadd dX9_bearsInAll_18 ?_
  refine px_istore_n3 dX9_bearsInAll_19 (by decide) rfl ?_
  refine px_aload_n dX9_bearsInAll_20 rfl rfl ?_
  refine px_iload_n dX9_bearsInAll_21 rfl rfl ?_
  refine cx_callOI1 (k := 33) (i := i) dX9_bearsInAll_22 (ko_X9_68 _) rfl (show i < Q.2.1 by omega) (vk_cl _) (c_bearsV G m M0 Q S i _ hc hk) (by decide) (Nat.le_of_ble_eq_true rfl) (fun x22 S22 Q22 => ?_)
  obtain ⟨rfl, e22⟩ := Q22
  obtain rfl := e22.symm
  refine px_istore_4 dX9_bearsInAll_25 (by decide) rfl ?_
  refine px_aload_n dX9_bearsInAll_27 rfl rfl ?_
  refine px_iload_n dX9_bearsInAll_28 rfl rfl ?_
  refine px_iload dX9_bearsInAll_29 rfl ?_
  refine px_aload_n dX9_bearsInAll_31 rfl rfl ?_
  refine cx_get (k := 33) (i := i) (f := 1) dX9_bearsInAll_32 (gk_X9_71 _) rfl (show i < Q.2.1 by omega) rfl ?_
  refine px_aload_n dX9_bearsInAll_35 rfl rfl ?_
  refine cx_get (k := 33) (i := i) (f := 2) dX9_bearsInAll_36 (gk_X9_75 _) rfl (show i < Q.2.1 by omega) rfl ?_
  refine px_iconst (v := 0) dX9_bearsInAll_39 (by decide) ?_
  refine px_iload_n dX9_bearsInAll_40 rfl rfl ?_
  refine cx_callV6 (k := 28) (i := t) dX9_bearsInAll_41 lX9_47 rfl (show t < Q.2.2 by omega) rfl (c_X9_nameNumbers G m M0 Q S t _ _ _ _ _ _ ht h6) (by decide) (Nat.le_of_ble_eq_true rfl) (fun S41 Q41 => ?_)
  obtain ⟨nf0, nv⟩ := Q41
  have nf : ∀ {k : Nat}, k ∉ [80 + t] → S41 k = S k := fun hk => nf0 _ hk
  refine px_iload dX9_bearsInAll_44 rfl ?_
  refine px_aload_n dX9_bearsInAll_46 rfl rfl ?_
  refine px_iconst (v := 0) dX9_bearsInAll_47 (by decide) ?_
  refine cx_callI1 (k := 28) (i := t) dX9_bearsInAll_48 lX9_51 rfl (show t < Q.2.2 by omega) rfl (c_X9_valueOf G m M0 Q S41 t 0 (tqL S t 0) ht h6 (by omega) ((hT.2.2.2 0 (by omega)).go (nf (by simp only [List.mem_singleton]; omega)) (nf (by simp only [List.mem_singleton]; omega)) (nf (by simp only [List.mem_singleton]; omega)))) (by decide) (Nat.le_of_ble_eq_true rfl) (fun x48 S48 Q48 => ?_)
  obtain ⟨rfl, g48⟩ := Q48
  rw [tv_at hT (by omega) nv]
  refine px_bipush (v := 99) dX9_bearsInAll_51 (by decide) ?_
  refine px_pureN2 dX9_bearsInAll_53 lX9_54 (c_X11_clamp G _ _) (by decide) (Nat.le_of_ble_eq_true rfl) ?_
  refine px_iadd dX9_bearsInAll_56 ?_
  refine px_iretI dX9_bearsInAll_57 rfl ?_
  refine ⟨?_, (nf0.mono (by simp)).tr (g48.mono (by simp))⟩
  rw [clamp_held (by decide)]
  rfl
set_option maxHeartbeats 4000000 in
set_option maxRecDepth 100000 in
theorem c_X9_keepBy (G : Gt) (m : Nat → Prop) (M0 : Nat → va_E) (Q : Qt) (S : MS) (t i : Nat) (hT : TX S Q t) (hc : i < Q.2.1) (hk : KO S i) : PC G (CPic G m M0 Q) 4 Y9_keepBy [.ref (Q.1 28 t), .ref (Q.1 33 i)] S 0 0 (ri (fun x S' => x = mKeep S i ∧ fr [80 + t, 90 + t] S S')) := by
  have ht := hT.2.1
  have h6 := hT.2.2.1
  refine pc_of (ls := [some (.ref (Q.1 28 t)), some (.ref (Q.1 33 i))]) (by decide +kernel) rfl (Nat.le_of_ble_eq_true rfl) ?_
  refine px_aload_n dX9_keepBy_0 rfl rfl ?_
  refine px_aload_n dX9_keepBy_1 rfl rfl ?_
  refine cx_callOI0 (k := 33) (i := i) dX9_keepBy_2 (ko_X9_78 _) rfl (show i < Q.2.1 by omega) (vk_cl _) (c_X2_takesInAll G m M0 Q S i hc hk) (by decide) (Nat.le_of_ble_eq_true rfl) (fun x2 S2 Q2 => ?_)
  obtain ⟨rfl, e2⟩ := Q2
  obtain rfl := e2.symm
  refine px_iconst (v := 0) dX9_keepBy_5 (by decide) ?_
  refine px_aload_n dX9_keepBy_6 rfl rfl ?_
  refine cx_get (k := 33) (i := i) (f := 1) dX9_keepBy_7 (gk_X9_71 _) rfl (show i < Q.2.1 by omega) rfl ?_
  refine px_aload_n dX9_keepBy_10 rfl rfl ?_
  refine cx_get (k := 33) (i := i) (f := 2) dX9_keepBy_11 (gk_X9_75 _) rfl (show i < Q.2.1 by omega) rfl ?_
  refine px_iconst (v := 0) dX9_keepBy_14 (by decide) ?_
  refine px_iconst (v := 0) dX9_keepBy_15 (by decide) ?_
  refine cx_callV6 (k := 28) (i := t) dX9_keepBy_16 lX9_47 rfl (show t < Q.2.2 by omega) rfl (c_X9_nameNumbers G m M0 Q S t _ _ _ _ _ _ ht h6) (by decide) (Nat.le_of_ble_eq_true rfl) (fun S16 Q16 => ?_)
  obtain ⟨nf0, nv⟩ := Q16
  have nf : ∀ {k : Nat}, k ∉ [80 + t] → S16 k = S k := fun hk => nf0 _ hk
  refine px_aload_n dX9_keepBy_19 rfl rfl ?_
  refine px_iconst (v := 2) dX9_keepBy_20 (by decide) ?_
  refine cx_callI1 (k := 28) (i := t) dX9_keepBy_21 lX9_51 rfl (show t < Q.2.2 by omega) rfl (c_X9_valueOf G m M0 Q S16 t 2 (tqL S t 2) ht h6 (by omega) ((hT.2.2.2 2 (by omega)).go (nf (by simp only [List.mem_singleton]; omega)) (nf (by simp only [List.mem_singleton]; omega)) (nf (by simp only [List.mem_singleton]; omega)))) (by decide) (Nat.le_of_ble_eq_true rfl) (fun x21 S21 Q21 => ?_)
  obtain ⟨rfl, g21⟩ := Q21
  rw [tv_at hT (by omega) nv]
  refine px_bipush (v := 99) dX9_keepBy_24 (by decide) ?_
  refine px_pureN2 dX9_keepBy_26 lX9_54 (c_X11_clamp G _ _) (by decide) (Nat.le_of_ble_eq_true rfl) ?_
  refine px_iretI dX9_keepBy_29 rfl ?_
  refine ⟨?_, (nf0.mono (by simp)).tr (g21.mono (by simp))⟩
  rw [clamp_held (by decide)]
  rfl
