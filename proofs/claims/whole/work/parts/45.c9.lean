/-! THE CLASS: plan, bound -/
def frQ (t : Nat) (S T : MS) : Prop := ∀ r, r ≠ 66 → r ≠ 67 → ¬ (130 ≤ r ∧ r ≤ 136) → r ≠ 80 + t → r ≠ 90 + t → ¬ (100 ≤ r ∧ r ≤ 103) → T r = S r
theorem frQ.fk {t : Nat} {S T : MS} (h : frQ t S T) : fk S T := fun q hq => h q (by omega) (by omega) (by omega) (by omega) (by omega) (by omega)
theorem frQ.tr {t : Nat} {S T U : MS} (h : frQ t S T) (h2 : frQ t T U) : frQ t S U := fun r a b c d e f => (h2 r a b c d e f).trans (h r a b c d e f)
theorem frQ.rf {t : Nat} {S : MS} : frQ t S S := fun _ _ _ _ _ _ _ => rfl
theorem PH.gQ {S T : MS} {Q : Qt} {n t : Nat} (h : PH S Q n t) (hf : frQ t S T) : PH T Q n t := by
  have h6 := h.2.2.1.2.2.1
  have ht := h.2.2.1.2.1
  exact h.go hf.fk (hf _ (by omega) (by omega) (by omega) (by omega) (by omega) (by omega)) (hf _ (by omega) (by omega) (by omega) (by omega) (by omega) (by omega)) (hf _ (by omega) (by omega) (by omega) (by omega) (by omega) (by omega))
set_option maxHeartbeats 4000000 in
set_option maxRecDepth 100000 in
theorem c_X5_plan (G : Gt) (m : Nat → Prop) (M0 : Nat → va_E) (Q : Qt) (S : MS) (n t : Nat) (hk x : Int32) (U : MS) (hPH : PH S Q n t) (hUr : ∀ r, r ≤ 20 ∨ (39 ≤ r ∧ r ≤ 50) → r ≠ 2 → U r = S r) (hOB : OB U n) (hf0 : mHk S hk = 0 → ∀ h, h < 6 → U 2 h = S 2 h) (hf1 : ¬ mHk S hk = 0 → ∃ j, j < n ∧ hk = nI j ∧ ∀ h, h < 6 → U 2 h = upd (S 2) j (S 2 j + x) h) : PC G (CPic G m M0 Q) 14 Y5_plan [.ref (Q.1 20 0), .ref (Q.1 8 0), .ref (Q.1 28 t), .ref (Q.1 1 0), .int hk, .int x] S 0 0 (rv (fun S' => frQ t S S' ∧ WC S' (gnA U n Q.2.1))) := by
  have ht := hPH.2.2.1.2.1
  have h6 := hPH.2.2.1.2.2.1
  have hn6 := hPH.2.1
  refine pc_of (ls := [some (.ref (Q.1 20 0)), some (.ref (Q.1 8 0)), some (.ref (Q.1 28 t)), some (.ref (Q.1 1 0)), some (.int hk), some (.int x)]) (by decide +kernel) rfl (Nat.le_of_ble_eq_true rfl) ?_
  refine px_aload_n dX5_plan_0 rfl rfl ?_
  refine px_aload_n dX5_plan_1 rfl rfl ?_
  refine cx_callV1 (k := 20) (i := 0) dX5_plan_2 lX5_29 rfl Nat.one_pos rfl (c_X5_keepOpen G m M0 Q S) (by omega) (Nat.le_of_ble_eq_true rfl) (fun S2 Q2 => ?_)
  obtain ⟨f2, o2⟩ := Q2
  refine px_aload_n dX5_plan_5 rfl rfl ?_
  refine px_iconst (v := 0) dX5_plan_6 (by decide) ?_
  refine cx_put (k := 20) (i := 0) (f := 0) (r := 66) (j := 0) dX5_plan_7 gX5_33 rfl Nat.one_pos (Nat.le_of_ble_eq_true rfl) (by decide) rfl (cpe_20_0 0 _) rfl rfl ?_
  refine px_aload_n dX5_plan_10 rfl rfl ?_
  refine px_iconst (v := 0) dX5_plan_11 (by decide) ?_
  refine cx_put (k := 20) (i := 0) (f := 1) (r := 66) (j := 1) dX5_plan_12 gX5_37 rfl Nat.one_pos (Nat.le_of_ble_eq_true rfl) (by decide) rfl (cpe_20_1 0 _) rfl rfl ?_
  refine px_aload_n dX5_plan_15 rfl rfl ?_
  refine px_iconst (v := 0) dX5_plan_16 (by decide) ?_
  refine cx_put (k := 20) (i := 0) (f := 2) (r := 66) (j := 2) dX5_plan_17 gX5_40 rfl Nat.one_pos (Nat.le_of_ble_eq_true rfl) (by decide) rfl (cpe_20_2 0 _) rfl rfl ?_
  refine px_aload_n dX5_plan_20 rfl rfl ?_
  refine cx_get (k := 1) (i := 0) (f := 0) dX5_plan_21 gX5_43 rfl Nat.one_pos rfl ?_
  refine px_iconst (v := 0) dX5_plan_24 (by decide) ?_
  refine px_aload_n dX5_plan_25 rfl rfl ?_
  refine cx_get (k := 20) (i := 0) (f := 5) dX5_plan_26 gX5_26 rfl Nat.one_pos rfl ?_
  refine px_iconst (v := 0) dX5_plan_29 (by decide) ?_
  refine cx_aald (k := 22) (i := 0) (0) dX5_plan_30 rfl Nat.one_pos rfl rfl rfl (by omega) (by decide) rfl ?_
  refine px_iconst (v := 0) dX5_plan_31 (by decide) ?_
  refine px_bipush (v := 6) dX5_plan_32 (by decide) ?_
  refine cx_copy (k0 := 2) (i0 := 0) (k := 23) (i := 0) (r := 100) 0 0 6 dX5_plan_34 cp_X5_48 (by omega) rfl Nat.one_pos (fun _ _ => rfl) (show 0 < 4 by omega) (by omega) (fun _ => rfl) rfl rfl rfl (by omega) (by omega) (by decide) (Nat.le_of_ble_eq_true rfl) ?_
  generalize hT1 : setA _ 100 _ = T1
  have q1 : frQ t S T1 := fun r a b c d e f => by rw [← hT1, setA_ne (by omega), up2_ne (by omega), up2_ne (by omega), up2_ne (by omega)]; exact f2 r (by simp only [List.mem_cons, List.not_mem_nil, or_false]; omega)
  have w1 : T1 66 0 = 0 ∧ T1 66 1 = 0 ∧ T1 66 2 = 0 := by rw [← hT1]; simp [setA, up2, upd]
  have p1 : OP T1 Q := fun q hq => by rw [← hT1, setA_ne (by omega), up2_ne (by omega), up2_ne (by omega), up2_ne (by omega), setA_ne (by omega), up2_ne (by omega), up2_ne (by omega), up2_ne (by omega), f2 11 (by decide)]; exact o2 q hq
  have b1 : ∀ x, x < 6 → T1 100 x = S 2 x := fun x hx => by
    rw [← hT1, setA_eq, cpy_fill, fa_fill_in hx, up2_ne (by omega), up2_ne (by omega), up2_ne (by omega), f2 2 (by decide)]
  have t1 : T1 1 0 = nI n := by rw [q1.fk 1 (by decide)]; exact hPH.1
  refine px_aload_n dX5_plan_37 rfl rfl ?_
  refine px_iload dX5_plan_38 rfl ?_
  refine cx_callI1 (k := 1) (i := 0) dX5_plan_40 lX5_54 rfl Nat.one_pos rfl (c_X10_has G m M0 Q T1 hk) (by omega) (Nat.le_of_ble_eq_true rfl) (fun x40 S40 Q40 => ?_)
  obtain ⟨rfl, e40⟩ := Q40
  obtain rfl := e40.symm
  refine px_if_eq (tgt := 60) dX5_plan_43 (by decide) (fun H43 => ?_) (fun H43 => ?_)
  · skip
    rw [show mHk T1 hk = mHk S hk from by unfold mHk; rw [t1, hPH.1]] at H43
    obtain ⟨T9, hT9⟩ : ∃ T, T = T1 := ⟨_, rfl⟩
    refine px_S hT9.symm ?_
    have q9 : frQ t S T9 := by rw [hT9]; exact q1
    have w9 : T9 66 0 = 0 ∧ T9 66 1 = 0 ∧ T9 66 2 = 0 := by rw [hT9]; exact w1
    have p9 : OP T9 Q := by rw [hT9]; exact p1
    have b9 : ∀ x, x < 6 → T9 100 x = U 2 x := fun x hx => by rw [hT9, b1 x hx, hf0 H43 x hx]
    refine px_aload_n dX5_plan_60 rfl rfl ?_
    refine px_aload_n dX5_plan_61 rfl rfl ?_
    refine px_aload_n dX5_plan_62 rfl rfl ?_
    refine px_iconst (v := 0) dX5_plan_63 (by decide) ?_
    refine px_iconst (v := 0) dX5_plan_64 (by decide) ?_
    refine px_iconst (v := 0) dX5_plan_65 (by decide) ?_
    refine px_iconst (v := 0) dX5_plan_66 (by decide) ?_
    have hw9 : WC T9 (0, 0, 0) := w9
    have hUR9 : UR T9 0 U := ⟨fun r hr he => by rw [hUr r hr he, q9.fk r hr], fun x hx => (b9 x hx).symm⟩
    refine cx_callV6 (k := 20) (i := 0) dX5_plan_67 lX5_58 rfl Nat.one_pos rfl (c_X5_goOn G m M0 Q n t 3 T9 U 0 0 0 0 (0, 0, 0) (by omega) (by omega) (by decide) (hPH.gQ q9) p9 hUR9 hOB hw9) (by omega) (Nat.le_of_ble_eq_true rfl) (fun S67 Q67 => ?_)
    obtain ⟨f67, w67⟩ := Q67
    refine px_return dX5_plan_70 rfl ?_
    exact ⟨q9.tr (fun r a b c d e f => f67 r a c d e (by omega)), w67⟩
  · skip
    rw [show mHk T1 hk = mHk S hk from by unfold mHk; rw [t1, hPH.1]] at H43
    obtain ⟨j, hj, ej, hfj⟩ := hf1 H43
    refine px_aload_n dX5_plan_46 rfl rfl ?_
    refine cx_get (k := 20) (i := 0) (f := 5) dX5_plan_47 gX5_26 rfl Nat.one_pos rfl ?_
    refine px_iconst (v := 0) dX5_plan_50 (by decide) ?_
    refine cx_aald (k := 22) (i := 0) (0) dX5_plan_51 rfl Nat.one_pos rfl rfl rfl (by omega) (by decide) rfl ?_
    refine px_iload dX5_plan_52 rfl ?_
    refine px_dup2 dX5_plan_54 rfl rfl ?_
    refine cx_iald (k := 23) (i := 0) (r := 100) (j) dX5_plan_55 ((fun _ => rfl) _) (show 0 < 4 by omega) ej (by omega) (by decide) ?_
    rw [b1 j (by omega)]
    refine px_iload dX5_plan_56 rfl ?_
    refine px_iadd dX5_plan_58 ?_
    refine cx_iast (k := 23) (i := 0) (r := 100) (j) dX5_plan_59 (fun S' _ => (fun _ => rfl) S') (show 0 < 4 by omega) (by decide) ((fun _ => rfl) _) ej (by omega) (by decide) ?_
    generalize hT9 : up2 T1 100 j (S 2 j + x) = T9
    have q9 : frQ t S T9 := fun r a b c d e f => by rw [← hT9, up2_ne (by omega)]; exact q1 r a b c d e f
    have w9 : T9 66 0 = 0 ∧ T9 66 1 = 0 ∧ T9 66 2 = 0 := by rw [← hT9, up2_ne (by omega)]; exact w1
    have p9 : OP T9 Q := fun q hq => by rw [← hT9, up2_ne (by omega), up2_ne (by omega)]; exact p1 q hq
    have b9 : ∀ x, x < 6 → T9 100 x = U 2 x := fun y hy => by
      rw [hfj y hy, ← hT9, up2_eq]
      by_cases e : y = j
      · subst e; rw [pk_us, pk_us]
      · rw [pk_un e, pk_un e]; exact b1 y hy
    refine px_aload_n dX5_plan_60 rfl rfl ?_
    refine px_aload_n dX5_plan_61 rfl rfl ?_
    refine px_aload_n dX5_plan_62 rfl rfl ?_
    refine px_iconst (v := 0) dX5_plan_63 (by decide) ?_
    refine px_iconst (v := 0) dX5_plan_64 (by decide) ?_
    refine px_iconst (v := 0) dX5_plan_65 (by decide) ?_
    refine px_iconst (v := 0) dX5_plan_66 (by decide) ?_
    have hw9 : WC T9 (0, 0, 0) := w9
    have hUR9 : UR T9 0 U := ⟨fun r hr he => by rw [hUr r hr he, q9.fk r hr], fun x hx => (b9 x hx).symm⟩
    refine cx_callV6 (k := 20) (i := 0) dX5_plan_67 lX5_58 rfl Nat.one_pos rfl (c_X5_goOn G m M0 Q n t 3 T9 U 0 0 0 0 (0, 0, 0) (by omega) (by omega) (by decide) (hPH.gQ q9) p9 hUR9 hOB hw9) (by omega) (Nat.le_of_ble_eq_true rfl) (fun S67 Q67 => ?_)
    obtain ⟨f67, w67⟩ := Q67
    refine px_return dX5_plan_70 rfl ?_
    exact ⟨q9.tr (fun r a b c d e f => f67 r a c d e (by omega)), w67⟩
set_option maxHeartbeats 4000000 in
set_option maxRecDepth 100000 in
theorem lp_bound (G : Gt) (m : Nat → Prop) (M0 : Nat → va_E) (Q : Qt) (S : MS) (n : Nat) (T : MS) (hf : fr [67] S T) (hOP : OP T Q) (hk : ∀ c, c < Q.2.1 → KO S c) : ∀ (kk i : Nat), i ≤ 3 → 4 ≤ i + kk → ∀ z7 : Option Value, PX G (CPic G m M0 Q) 4 Y5_bound 21 [some (.ref (Q.1 20 0)), some (.ref (Q.1 8 0)), some (.int (mAllS S n)), some (.int (mbF S n (min i Q.2.1))), some (.ref (Q.1 21 0)), some (.int (nI 3)), some (.int (nI i)), z7] [] T 0 0 (ri (fun x S' => x = mbF S n (min Q.2.1 3) ∧ S' = T)) := by
  intro kk
  induction kk with
  | zero => intro i h1 h2; omega
  | succ kk ih =>
    intro i hi hkk z7
    have hkT : fk S T := hf.fk (by decide)
    refine px_iload dX5_bound_21 rfl ?_
    refine px_iload dX5_bound_23 rfl ?_
    refine px_icmp_ge (tgt := 71) dX5_bound_25 (by decide) (fun H25 => ?_) (fun H25 => ?_)
    · skip
      have e3 : i = 3 := by have := ge_n (a := i) (b := 3) (by omega) (by omega) H25; omega
      subst e3
      refine px_iload_n dX5_bound_71 rfl rfl ?_
      refine px_iretI dX5_bound_72 rfl ?_
      exact ⟨by rw [Nat.min_comm], rfl⟩
    · skip
      have l3 : i < 3 := lt_n (a := i) (b := 3) (by omega) (by omega) H25
      have o3 := hOP i l3
      refine px_aload dX5_bound_28 rfl ?_
      refine px_iload dX5_bound_30 rfl ?_
      by_cases hcc : T 67 i = 1
      · skip
        have hco : i < Q.2.1 ∧ S 11 i = 0 := by
          by_cases q : i < Q.2.1 ∧ S 11 i = 0
          · exact q
          · rw [o3, show T 11 = S 11 from hf 11 (by decide), if_neg q] at hcc; exact absurd hcc (by decide)
        obtain ⟨hc, h11⟩ := hco
        have hkc := KO_k hkT (hk i hc)
        have hst : mbF S n (min (i + 1) Q.2.1) = mbF S n (min i Q.2.1) + (if S 11 i = 0 ∧ 0 < mBr S i ∧ ¬ mAllS S n < mTkS S i 5 then mBr S i else 0) := by
          rw [show min (i + 1) Q.2.1 = i + 1 by omega, show min i Q.2.1 = i by omega]; rfl
        refine cx_aald (k := 21) (i := 0) (i) dX5_bound_32 rfl Nat.one_pos rfl rfl rfl (by omega) (by decide) (co_pos hcc hc) ?_
        refine px_astore_7 dX5_bound_33 (by decide) rfl ?_
        refine px_aload dX5_bound_35 rfl ?_
        refine px_ifnull dX5_bound_37 ?_
        refine px_aload dX5_bound_40 rfl ?_
        refine cx_callOI0 (k := 33) (i := i) dX5_bound_42 (ko_X5_62 _) rfl (show i < Q.2.1 by omega) (vk_cl _) (c_bringsV G m M0 Q T i hc hkc) (by decide) (Nat.le_of_ble_eq_true rfl) (fun x42 S42 Q42 => ?_)
        obtain ⟨rfl, e42⟩ := Q42
        obtain rfl := e42.symm
        rw [mBr_k hkT]
        refine px_if_le (tgt := 65) dX5_bound_45 (by decide) (fun H45 => ?_) (fun H45 => ?_)
        · skip
          refine px_iinc_6 (v := 1) dX5_bound_65 (by decide) (by decide) rfl ?_
          refine px_goto (tgt := 21) dX5_bound_68 (by decide) ?_
          rw [nI_1]
          refine px_lw (ls' := [some (.ref (Q.1 20 0)), some (.ref (Q.1 8 0)), some (.int (mAllS S n)), some (.int (mbF S n (min (i + 1) Q.2.1))), some (.ref (Q.1 21 0)), some (.int (nI 3)), some (.int (nI (i + 1))), none]) ?_ (ih (i + 1) (by omega) (by omega) none)
          first
          | (rw [hst]; simp [LW]; done)
          | (rw [hst, if_pos ⟨h11, H45, H54⟩]; simp [LW]; done)
          | (rw [hst, if_neg (fun q => H45 q.2.1), Int32.add_zero]; simp [LW]; done)
          | (rw [hst, if_neg (fun q => q.2.2 H54), Int32.add_zero]; simp [LW]; done)
        · skip
          refine px_aload dX5_bound_48 rfl ?_
          refine cx_callOI0 (k := 33) (i := i) dX5_bound_50 (ko_X5_66 _) rfl (show i < Q.2.1 by omega) (vk_cl _) (c_X2_takesInAll G m M0 Q T i hc hkc) (by decide) (Nat.le_of_ble_eq_true rfl) (fun x50 S50 Q50 => ?_)
          obtain ⟨rfl, e50⟩ := Q50
          obtain rfl := e50.symm
          rw [mTkS_k hkT]
          refine px_iload_n dX5_bound_53 rfl rfl ?_
          refine px_icmp_gt (tgt := 65) dX5_bound_54 (by decide) (fun H54 => ?_) (fun H54 => ?_)
          · skip
            refine px_iinc_6 (v := 1) dX5_bound_65 (by decide) (by decide) rfl ?_
            refine px_goto (tgt := 21) dX5_bound_68 (by decide) ?_
            rw [nI_1]
            refine px_lw (ls' := [some (.ref (Q.1 20 0)), some (.ref (Q.1 8 0)), some (.int (mAllS S n)), some (.int (mbF S n (min (i + 1) Q.2.1))), some (.ref (Q.1 21 0)), some (.int (nI 3)), some (.int (nI (i + 1))), none]) ?_ (ih (i + 1) (by omega) (by omega) none)
            first
            | (rw [hst]; simp [LW]; done)
            | (rw [hst, if_pos ⟨h11, H45, H54⟩]; simp [LW]; done)
            | (rw [hst, if_neg (fun q => H45 q.2.1), Int32.add_zero]; simp [LW]; done)
            | (rw [hst, if_neg (fun q => q.2.2 H54), Int32.add_zero]; simp [LW]; done)
          · skip
            refine px_iload_n dX5_bound_57 rfl rfl ?_
            refine px_aload dX5_bound_58 rfl ?_
            refine cx_callOI0 (k := 33) (i := i) dX5_bound_60 (ko_X5_62 _) rfl (show i < Q.2.1 by omega) (vk_cl _) (c_bringsV G m M0 Q T i hc hkc) (by decide) (Nat.le_of_ble_eq_true rfl) (fun x60 S60 Q60 => ?_)
            obtain ⟨rfl, e60⟩ := Q60
            obtain rfl := e60.symm
            rw [mBr_k hkT]
            refine px_iadd dX5_bound_63 ?_
            refine px_istore_n3 dX5_bound_64 (by decide) rfl ?_
            refine px_iinc_6 (v := 1) dX5_bound_65 (by decide) (by decide) rfl ?_
            refine px_goto (tgt := 21) dX5_bound_68 (by decide) ?_
            rw [nI_1]
            refine px_lw (ls' := [some (.ref (Q.1 20 0)), some (.ref (Q.1 8 0)), some (.int (mAllS S n)), some (.int (mbF S n (min (i + 1) Q.2.1))), some (.ref (Q.1 21 0)), some (.int (nI 3)), some (.int (nI (i + 1))), none]) ?_ (ih (i + 1) (by omega) (by omega) none)
            first
            | (rw [hst]; simp [LW]; done)
            | (rw [hst, if_pos ⟨h11, H45, H54⟩]; simp [LW]; done)
            | (rw [hst, if_neg (fun q => H45 q.2.1), Int32.add_zero]; simp [LW]; done)
            | (rw [hst, if_neg (fun q => q.2.2 H54), Int32.add_zero]; simp [LW]; done)
      · skip
        have hst : mbF S n (min (i + 1) Q.2.1) = mbF S n (min i Q.2.1) := by
          by_cases q : i < Q.2.1
          · rw [show min (i + 1) Q.2.1 = i + 1 by omega, show min i Q.2.1 = i by omega, mbF, if_neg (fun e => hcc (by rw [o3, show T 11 = S 11 from hf 11 (by decide), if_pos ⟨q, e.1⟩])), Int32.add_zero]
          · rw [show min (i + 1) Q.2.1 = min i Q.2.1 by omega]
        refine cx_aald (k := 21) (i := 0) (i) dX5_bound_32 rfl Nat.one_pos rfl rfl rfl (by omega) (by decide) (co_neg hcc) ?_
        refine px_astoreN_7 dX5_bound_33 (by decide) rfl ?_
        refine px_aloadN dX5_bound_35 rfl ?_
        refine px_ifnullN (tgt := 65) dX5_bound_37 (by decide) ?_
        refine px_iinc_6 (v := 1) dX5_bound_65 (by decide) (by decide) rfl ?_
        refine px_goto (tgt := 21) dX5_bound_68 (by decide) ?_
        rw [nI_1]
        refine px_lw (ls' := [some (.ref (Q.1 20 0)), some (.ref (Q.1 8 0)), some (.int (mAllS S n)), some (.int (mbF S n (min (i + 1) Q.2.1))), some (.ref (Q.1 21 0)), some (.int (nI 3)), some (.int (nI (i + 1))), none]) ?_ (ih (i + 1) (by omega) (by omega) none)
        first
        | (rw [hst]; simp [LW]; done)
        | (rw [hst, if_pos ⟨h11, H45, H54⟩]; simp [LW]; done)
        | (rw [hst, if_neg (fun q => H45 q.2.1), Int32.add_zero]; simp [LW]; done)
        | (rw [hst, if_neg (fun q => q.2.2 H54), Int32.add_zero]; simp [LW]; done)
      -- end
set_option maxHeartbeats 4000000 in
set_option maxRecDepth 100000 in
theorem c_X5_bound (G : Gt) (m : Nat → Prop) (M0 : Nat → va_E) (Q : Qt) (S : MS) (n : Nat) (hk : ∀ c, c < Q.2.1 → KO S c) : PC G (CPic G m M0 Q) 4 Y5_bound [.ref (Q.1 20 0), .ref (Q.1 8 0), .int (mAllS S n)] S 0 0 (ri (fun x S' => x = mbF S n (min Q.2.1 3) ∧ fr [67] S S')) := by
  refine pc_of (ls := [some (.ref (Q.1 20 0)), some (.ref (Q.1 8 0)), some (.int (mAllS S n)), none, none, none, none, none]) (by decide +kernel) rfl (Nat.le_of_ble_eq_true rfl) ?_
  refine px_aload_n dX5_bound_0 rfl rfl ?_
  refine px_aload_n dX5_bound_1 rfl rfl ?_
  refine cx_callV1 (k := 20) (i := 0) dX5_bound_2 lX5_29 rfl Nat.one_pos rfl (c_X5_keepOpen G m M0 Q S) (by decide) (Nat.le_of_ble_eq_true rfl) (fun S2 Q2 => ?_)
  obtain ⟨f2, o2⟩ := Q2
  have op2 : OP S2 Q := fun j hj => by rw [f2 11 (by decide)]; exact o2 j hj
  refine px_iconst (v := 0) dX5_bound_5 (by decide) ?_
  refine px_istore_n3 dX5_bound_6 (by decide) rfl ?_
  refine px_aload_n dX5_bound_7 rfl rfl ?_
  refine cx_get (k := 20) (i := 0) (f := 4) dX5_bound_8 gX5_20 rfl Nat.one_pos rfl ?_
  refine px_astore_4 dX5_bound_11 (by decide) rfl ?_
  refine px_aload dX5_bound_13 rfl ?_
  refine cx_alen (k := 21) (i := 0) (t := 3) (n := 0) (v := (nI 3)) dX5_bound_15 rfl Nat.one_pos rfl rfl ?_
  refine px_istore_5 dX5_bound_16 (by decide) rfl ?_
  refine px_iconst (v := 0) dX5_bound_18 (by decide) ?_
  refine px_istore_6 dX5_bound_19 (by decide) rfl ?_
  refine px_post (fun r S9 h9 => ?_) (px_lw (ls' := [some (.ref (Q.1 20 0)), some (.ref (Q.1 8 0)), some (.int (mAllS S n)), some (.int (mbF S n (min 0 Q.2.1))), some (.ref (Q.1 21 0)), some (.int (nI 3)), some (.int (nI 0)), none]) (by simp [LW, mbF]; try rfl) (lp_bound G m M0 Q S n S2 f2 op2 hk 4 0 (by omega) (by omega) none))
  obtain ⟨x, rfl, e1, rfl⟩ := h9
  exact ⟨x, rfl, e1, f2⟩
