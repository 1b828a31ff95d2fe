/-! THE CLASS: range, knit, undo, most, more -/
theorem and1 (x : Int32) : x &&& 1 = 0 ∨ x &&& 1 = 1 := by
  obtain ⟨b, rfl⟩ := nI_ex x
  rw [show (1 : Int32) = nI (2 ^ 1 - 1) from rfl, fa_mask]
  rcases (by omega : b % 2 ^ 1 = 0 ∨ b % 2 ^ 1 = 1) with h | h <;> rw [h]
  · exact Or.inl rfl
  · exact Or.inr rfl
theorem hB_m {z : Int32} {a : Nat} : hB z (nI a) = 0 ↔ mBit z a = 0 := by
  unfold hB mBit
  rcases and1 (z >>> (nI a &&& 31)) with h | h <;> rw [h] <;> decide
theorem rng_ok {z : Int32} {n : Nat} (hn : n ≤ 6) : mIn z 0 ((1 <<< (nI n &&& 31)) - 1) = 0 ↔ (z < 0 ∨ ¬ z >>> (nI n &&& 31) = 0) := by
  have e1 : ((1 : Int32) <<< (nI n &&& 31)) - 1 = nI (2 ^ n - 1) := by
    rcases (by omega : n = 0 ∨ n = 1 ∨ n = 2 ∨ n = 3 ∨ n = 4 ∨ n = 5 ∨ n = 6) with rfl | rfl | rfl | rfl | rfl | rfl | rfl <;> decide
  have e2 : ((nI n &&& 31).toBitVec.smod 32).toNat = n := by
    rcases (by omega : n = 0 ∨ n = 1 ∨ n = 2 ∨ n = 3 ∨ n = 4 ∨ n = 5 ∨ n = 6) with rfl | rfl | rfl | rfl | rfl | rfl | rfl <;> decide
  have e3 : 2 ^ n ≤ 64 := by
    rcases (by omega : n = 0 ∨ n = 1 ∨ n = 2 ∨ n = 3 ∨ n = 4 ∨ n = 5 ∨ n = 6) with rfl | rfl | rfl | rfl | rfl | rfl | rfl <;> decide
  have e4 : 0 < 2 ^ n := Nat.pow_pos (by decide)
  rw [e1, mIn_0]
  by_cases hz : z < 0
  · simp [hz]
  · have hz2 : ¬ z.toInt < 0 := fun q => hz (i_lt.mpr q)
    have hr := fb_rng z
    obtain ⟨a, ha, rfl⟩ : ∃ a : Nat, a < 2 ^ 31 ∧ z = nI a := ⟨z.toInt.toNat, by omega, by rw [i_eq, nI_toInt (by omega)]; omega⟩
    rw [pk_shrN ha _ n e2]
    have h1 : nI (2 ^ n - 1) < nI a ↔ 2 ^ n - 1 < a := nI_ltI (by omega) (by omega)
    have h2 : nI (a / 2 ^ n) = 0 ↔ a / 2 ^ n = 0 := by
      have := Nat.div_le_self a (2 ^ n)
      exact nI_eq (b := 0) (by omega) (by omega)
    rw [h1, h2, Nat.div_eq_zero_iff]
    simp only [hz, false_or]
    omega
set_option maxHeartbeats 4000000 in
set_option maxRecDepth 100000 in
theorem lp_rg2 (G : Gt) (m : Nat → Prop) (M0 : Nat → va_E) (Q : Qt) (S : MS) (n t a : Nat) (z acc : Int32) (hCH : CH S Q n t) (ha : a < n) (Post : Option Value → MS → Prop) (K : ∀ T : MS, fr [80 + t, 90 + t] S T → PX G (CPic G m M0 Q) 5 Y11_range 103 [some (.ref (Q.1 0 0)), some (.int z), some (.int (rIn S z a acc (n - (a + 1)))), some (.int (nI a)), none] [] T 0 0 Post) : ∀ (kk k : Nat) (T : MS), fr [80 + t, 90 + t] S T → k ≤ (n - (a + 1)) → (n - (a + 1)) + 1 ≤ k + kk → PX G (CPic G m M0 Q) 5 Y11_range 42 [some (.ref (Q.1 0 0)), some (.int z), some (.int (rIn S z a acc k)), some (.int (nI a)), some (.int (nI (a + 1 + k)))] [] T 0 0 Post := by
  have hCH0 := hCH
  obtain ⟨hPH, hC, hC8, h60, h16, hOB⟩ := hCH
  have hn1 := hPH.1
  have hn6 := hPH.2.1
  have hTX := hPH.2.2.1
  have hWB := hPH.2.2.2.1
  have hco := hPH.2.2.2.2
  have ht := hTX.2.1
  have h6 := hTX.2.2.1
  have hRU : (S 60 0).toNatClampNeg = t := by rw [h60, nI_clamp (by omega)]
  have eN := hN_eq hn1 (by omega)
  have eC := cN_eq hC (by omega)
  intro kk
  induction kk with
  | zero => intro k T hf h1 h2; omega
  | succ kk ih =>
    intro k T hf h1 h2
    refine px_iload dX11_range_42 rfl ?_
    refine px_aload_n dX11_range_44 rfl rfl ?_
    refine cx_get (k := 0) (i := 0) (f := 0) dX11_range_45 gX11_10 rfl Nat.one_pos rfl ?_
    refine cx_get (k := 1) (i := 0) (f := 4) dX11_range_48 gX11_171 rfl Nat.one_pos rfl ?_
    refine px_icmp_ge (tgt := 103) dX11_range_51 (by decide) (fun H51 => ?_) (fun H51 => ?_)
    · skip
      rw [show T 1 0 = nI n from (hCH0.ft hf).1.1] at H51
      have eN : k = (n - (a + 1)) := by have := ge_n (a := a + 1 + k) (b := n) (by omega) (by omega) H51; omega
      rw [eN]
      exact px_lw (ls' := [some (.ref (Q.1 0 0)), some (.int z), some (.int (rIn S z a acc (n - (a + 1)))), some (.int (nI a)), none]) (by simp [LW]) (K T hf)
    · skip
      rw [show T 1 0 = nI n from (hCH0.ft hf).1.1] at H51
      have lN : a + 1 + k < n := lt_n (a := a + 1 + k) (b := n) (by omega) (by omega) H51
      have hCT := hCH0.ft hf
      have hRU : (T 60 0).toNatClampNeg = t := by rw [hCT.2.2.2.1, nI_clamp (by omega)]
      have hkT := ft_k hf
      have t1 : T 1 0 = nI n := hCT.1.1
      refine px_iload_n dX11_range_54 rfl rfl ?_
      refine px_iload_n dX11_range_55 rfl rfl ?_
      refine px_pure2 dX11_range_56 lX11_172 (c_X11_hasBit G _ _) (by decide) (Nat.le_of_ble_eq_true rfl) ?_
      refine px_if_eq (tgt := 97) dX11_range_59 (by decide) (fun H59 => ?_) (fun H59 => ?_)
      · skip
        rw [hB_m] at H59
        refine px_iinc_4 (v := 1) dX11_range_97 (by decide) (by decide) rfl ?_
        refine px_goto (tgt := 42) dX11_range_100 (by decide) ?_
        refine px_lw (ls' := [some (.ref (Q.1 0 0)), some (.int z), some (.int (rIn S z a acc (k + 1))), some (.int (nI a)), some (.int (nI (a + 1 + (k + 1))))]) ?_ (ih (k + 1) _ (by assumption) (by omega) (by omega))
        first
        | (simp [LW, rIn, jMax_l, nI_1, *]; done)
        | (simp [LW, rIn, jMax_l, nI_1, *]; rfl)
      · skip
        rw [hB_m] at H59
        refine px_iload_n dX11_range_62 rfl rfl ?_
        refine px_iload dX11_range_63 rfl ?_
        refine px_pure2 dX11_range_65 lX11_172 (c_X11_hasBit G _ _) (by decide) (Nat.le_of_ble_eq_true rfl) ?_
        refine px_if_eq (tgt := 97) dX11_range_68 (by decide) (fun H68 => ?_) (fun H68 => ?_)
        · skip
          rw [hB_m] at H68
          refine px_iinc_4 (v := 1) dX11_range_97 (by decide) (by decide) rfl ?_
          refine px_goto (tgt := 42) dX11_range_100 (by decide) ?_
          refine px_lw (ls' := [some (.ref (Q.1 0 0)), some (.int z), some (.int (rIn S z a acc (k + 1))), some (.int (nI a)), some (.int (nI (a + 1 + (k + 1))))]) ?_ (ih (k + 1) _ (by assumption) (by omega) (by omega))
          first
          | (simp [LW, rIn, jMax_l, nI_1, *]; done)
          | (simp [LW, rIn, jMax_l, nI_1, *]; rfl)
        · skip
          rw [hB_m] at H68
          refine px_iload_n dX11_range_71 rfl rfl ?_
          refine px_aload_n dX11_range_72 rfl rfl ?_
          refine cx_get (k := 0) (i := 0) (f := 6) dX11_range_73 gX11_65 rfl Nat.one_pos rfl ?_
          rw [hRU]
          refine px_aload_n dX11_range_76 rfl rfl ?_
          refine cx_get (k := 0) (i := 0) (f := 0) dX11_range_77 gX11_10 rfl Nat.one_pos rfl ?_
          refine px_aload_n dX11_range_80 rfl rfl ?_
          refine cx_get (k := 0) (i := 0) (f := 0) dX11_range_81 gX11_10 rfl Nat.one_pos rfl ?_
          refine cx_get (k := 1) (i := 0) (f := 0) dX11_range_84 gX11_85 rfl Nat.one_pos rfl ?_
          refine px_iload_n dX11_range_87 rfl rfl ?_
          refine px_iload dX11_range_88 rfl ?_
          refine cx_callI4 (k := 28) (i := t) dX11_range_90 lX11_160 rfl (show t < Q.2.2 by omega) rfl (c_X9_seenApart G m M0 Q T t 2 0 2 a (a + 1 + k) hCT.1.2.2.1 (fun _ => rfl) Nat.one_pos hCT.1.2.2.2.1 (by omega) (by omega) (by omega)) (by decide) (Nat.le_of_ble_eq_true rfl) (fun x90 S90 Q90 => ?_)
          obtain ⟨rfl, f90⟩ := Q90
          rw [setA_id, mSeen_k hkT]
          have g90 := hf.tr f90
          refine px_pure2 dX11_range_93 lX11_176 (c_J9_max_7cf53 G _ _) (by decide) (Nat.le_of_ble_eq_true rfl) ?_
          refine px_istore_n2 dX11_range_96 (by decide) rfl ?_
          refine px_iinc_4 (v := 1) dX11_range_97 (by decide) (by decide) rfl ?_
          refine px_goto (tgt := 42) dX11_range_100 (by decide) ?_
          refine px_lw (ls' := [some (.ref (Q.1 0 0)), some (.int z), some (.int (rIn S z a acc (k + 1))), some (.int (nI a)), some (.int (nI (a + 1 + (k + 1))))]) ?_ (ih (k + 1) _ (by assumption) (by omega) (by omega))
          first
          | (simp [LW, rIn, jMax_l, nI_1, *]; done)
          | (simp [LW, rIn, jMax_l, nI_1, *]; rfl)
set_option maxHeartbeats 4000000 in
set_option maxRecDepth 100000 in
theorem lp_rg1 (G : Gt) (m : Nat → Prop) (M0 : Nat → va_E) (Q : Qt) (S : MS) (n t : Nat) (z : Int32) (hCH : CH S Q n t) (Post : Option Value → MS → Prop) (K : ∀ T : MS, fr [80 + t, 90 + t] S T → PX G (CPic G m M0 Q) 5 Y11_range 109 [some (.ref (Q.1 0 0)), some (.int z), some (.int (rOut S z n n)), some (.int (nI n)), none] [] T 0 0 Post) : ∀ (kk a : Nat) (T : MS), fr [80 + t, 90 + t] S T → a ≤ n → n + 1 ≤ a + kk → PX G (CPic G m M0 Q) 5 Y11_range 26 [some (.ref (Q.1 0 0)), some (.int z), some (.int (rOut S z n a)), some (.int (nI a)), none] [] T 0 0 Post := by
  have hCH0 := hCH
  obtain ⟨hPH, hC, hC8, h60, h16, hOB⟩ := hCH
  have hn1 := hPH.1
  have hn6 := hPH.2.1
  have hTX := hPH.2.2.1
  have hWB := hPH.2.2.2.1
  have hco := hPH.2.2.2.2
  have ht := hTX.2.1
  have h6 := hTX.2.2.1
  have hRU : (S 60 0).toNatClampNeg = t := by rw [h60, nI_clamp (by omega)]
  have eN := hN_eq hn1 (by omega)
  have eC := cN_eq hC (by omega)
  intro kk
  induction kk with
  | zero => intro a T hf h1 h2; omega
  | succ kk ih =>
    intro a T hf h1 h2
    refine px_iload_n dX11_range_26 rfl rfl ?_
    refine px_aload_n dX11_range_27 rfl rfl ?_
    refine cx_get (k := 0) (i := 0) (f := 0) dX11_range_28 gX11_10 rfl Nat.one_pos rfl ?_
    refine cx_get (k := 1) (i := 0) (f := 4) dX11_range_31 gX11_171 rfl Nat.one_pos rfl ?_
    refine px_icmp_ge (tgt := 109) dX11_range_34 (by decide) (fun H34 => ?_) (fun H34 => ?_)
    · skip
      rw [show T 1 0 = nI n from (hCH0.ft hf).1.1] at H34
      have eN : a = n := by have := ge_n (a := a) (b := n) (by omega) (by omega) H34; omega
      rw [eN]
      exact px_lw (ls' := [some (.ref (Q.1 0 0)), some (.int z), some (.int (rOut S z n n)), some (.int (nI n)), none]) (by simp [LW]) (K T hf)
    · skip
      rw [show T 1 0 = nI n from (hCH0.ft hf).1.1] at H34
      have lN : a < n := lt_n (a := a) (b := n) (by omega) (by omega) H34
      refine px_iload_n dX11_range_37 rfl rfl ?_
      refine px_iconst (v := 1) dX11_range_38 (by decide) ?_
      refine px_iadd dX11_range_39 ?_
      refine px_istore_4 dX11_range_40 (by decide) rfl ?_
      rw [nI_1]
      refine px_lw (ls' := [some (.ref (Q.1 0 0)), some (.int z), some (.int (rIn S z a (rOut S z n a) 0)), some (.int (nI a)), some (.int (nI (a + 1 + 0)))]) (by simp [LW, rIn]) (lp_rg2 G m M0 Q S n t a z (rOut S z n a) hCH0 lN _ (fun T2 hf2 => ?_) (n - (a + 1) + 1) 0 T hf (by omega) (by omega))
      refine px_iinc_3 (v := 1) dX11_range_103 (by decide) (by decide) rfl ?_
      refine px_goto (tgt := 26) dX11_range_106 (by decide) ?_
      refine px_lw (ls' := [some (.ref (Q.1 0 0)), some (.int z), some (.int (rOut S z n (a + 1))), some (.int (nI (a + 1))), none]) ?_ (ih (a + 1) _ (by assumption) (by omega) (by omega))
      first
      | (simp [LW, rOut, nI_1, *]; done)
      | (simp [LW, rOut, nI_1, *]; rfl)
set_option maxHeartbeats 4000000 in
set_option maxRecDepth 100000 in
theorem c_X11_range (G : Gt) (m : Nat → Prop) (M0 : Nat → va_E) (Q : Qt) (S : MS) (z : Int32) (n t : Nat) (hCH : CH S Q n t) : PC G (CPic G m M0 Q) 5 Y11_range [.ref (Q.1 0 0), .int z] S 0 0 (ri (fun x S' => x = f_range S z ∧ fr [80 + t, 90 + t] S S')) := by
  have hCH0 := hCH
  obtain ⟨hPH, hC, hC8, h60, h16, hOB⟩ := hCH
  have hn1 := hPH.1
  have hn6 := hPH.2.1
  have hTX := hPH.2.2.1
  have hWB := hPH.2.2.2.1
  have hco := hPH.2.2.2.2
  have ht := hTX.2.1
  have h6 := hTX.2.2.1
  have hRU : (S 60 0).toNatClampNeg = t := by rw [h60, nI_clamp (by omega)]
  have eN := hN_eq hn1 (by omega)
  have eC := cN_eq hC (by omega)
  refine pc_of (ls := [some (.ref (Q.1 0 0)), some (.int z), none, none, none]) (by decide +kernel) rfl (Nat.le_of_ble_eq_true rfl) ?_
  refine px_iload_n dX11_range_0 rfl rfl ?_
  refine px_iconst (v := 0) dX11_range_1 (by decide) ?_
  refine px_iconst (v := 1) dX11_range_2 (by decide) ?_
  refine px_aload_n dX11_range_3 rfl rfl ?_
  refine cx_get (k := 0) (i := 0) (f := 0) dX11_range_4 gX11_10 rfl Nat.one_pos rfl ?_
  refine cx_get (k := 1) (i := 0) (f := 4) dX11_range_7 gX11_171 rfl Nat.one_pos rfl ?_
  rw [hn1]
  refine px_ishl dX11_range_10 ?_
  refine px_iconst (v := 1) dX11_range_11 (by decide) ?_
  refine px_isub dX11_range_12 ?_
  refine px_pure3 dX11_range_13 lX11_81 (c_X11_isWithin G _ _ _) (by decide) (Nat.le_of_ble_eq_true rfl) ?_
  refine px_if_ne (tgt := 22) dX11_range_16 (by decide) (fun H16 => ?_) (fun H16 => ?_)
  · skip
    rw [rng_ok hn6] at H16
    refine px_iconst (v := (-1)) dX11_range_22 (by decide) ?_
    refine px_istore_n2 dX11_range_23 (by decide) rfl ?_
    refine px_iconst (v := 0) dX11_range_24 (by decide) ?_
    refine px_istore_n3 dX11_range_25 (by decide) rfl ?_
    refine px_lw (ls' := [some (.ref (Q.1 0 0)), some (.int z), some (.int (rOut S z n 0)), some (.int (nI 0)), none]) (by simp [LW, rOut] <;> first | rfl | exact ⟨rfl, rfl⟩) (lp_rg1 G m M0 Q S n t z hCH0 _ (fun T hf => ?_) (n + 1) 0 S fr.rf (by omega) (by omega))
    refine px_iload_n dX11_range_109 rfl rfl ?_
    refine px_iretI dX11_range_110 rfl ?_
    first | exact ⟨by rw [f_range, hn1, if_pos H16], fr.rf⟩ | exact ⟨by rw [f_range, hn1, if_neg H16, eN], hf⟩
  · skip
    rw [rng_ok hn6] at H16
    refine px_bipush (v := (-2)) dX11_range_19 (by decide) ?_
    refine px_iretI dX11_range_21 rfl ?_
    first | exact ⟨by rw [f_range, hn1, if_pos H16], fr.rf⟩ | exact ⟨by rw [f_range, hn1, if_neg H16, eN], hf⟩
theorem fr_up2C {X : List Nat} {S T : MS} {r i : Nat} {x : Int32} (h : fr X S T) : fr X (up2 S r i x) (up2 T r i x) := by
  intro k hk
  unfold up2
  rw [h k hk]
theorem fr_setAC {X : List Nat} {S T : MS} {r : Nat} {f : Nat → Int32} (h : fr X S T) : fr X (setA S r f) (setA T r f) := by
  intro k hk
  unfold setA
  split
  · rfl
  · exact h k hk
set_option maxHeartbeats 4000000 in
set_option maxRecDepth 100000 in
theorem c_X11_knit (G : Gt) (m : Nat → Prop) (M0 : Nat → va_E) (Q : Qt) (S : MS) (c p day : Int32) (n t : Nat) (hCH : CH S Q n t) : PC G (CPic G m M0 Q) 6 Y11_knit [.ref (Q.1 0 0), .int c, .int p, .int day] S 0 0 (ri (fun x S' => x = (f_knit S c p day).1 ∧ fr (scC 0 t) (f_knit S c p day).2 S')) := by
  obtain ⟨hPH, hC, hC8, h60, h16, hOB⟩ := hCH
  have hn1 := hPH.1
  have hn6 := hPH.2.1
  have hTX := hPH.2.2.1
  have hWB := hPH.2.2.2.1
  have hco := hPH.2.2.2.2
  have ht := hTX.2.1
  have h6 := hTX.2.2.1
  have hRU : (S 60 0).toNatClampNeg = t := by rw [h60, nI_clamp (by omega)]
  have eN := hN_eq hn1 (by omega)
  have eC := cN_eq hC (by omega)
  refine pc_of (ls := [some (.ref (Q.1 0 0)), some (.int c), some (.int p), some (.int day), none, none]) (by decide +kernel) rfl (Nat.le_of_ble_eq_true rfl) ?_
  refine px_aload_n dX11_knit_0 rfl rfl ?_
  refine px_iload_n dX11_knit_1 rfl rfl ?_
  refine cx_callR1 (k := 0) (i := 0) dX11_knit_2 lX11_98 rfl Nat.one_pos rfl (c_X11_coatAt G m M0 Q S c hC hC8) (by decide) (Nat.le_of_ble_eq_true rfl) (fun x2 S2 Q2 => ?_)
  obtain ⟨hx2, e2⟩ := Q2
  obtain rfl := e2.symm
  rcases hx2 with ⟨hct, rfl⟩ | ⟨hct, k, hk, ek, rfl⟩
  · skip
    refine px_astoreN_4 dX11_knit_5 (by decide) rfl ?_
    refine px_aloadN dX11_knit_7 rfl ?_
    refine px_ifnullN (tgt := 36) dX11_knit_9 (by decide) ?_
    refine px_bipush (v := (-2)) dX11_knit_36 (by decide) ?_
    refine px_iretI dX11_knit_38 rfl ?_
    first
    | exact ⟨by simp [f_knit, *], by simp [f_knit, *]; exact fr.rf⟩
    | (rw [f_knit, if_neg (by rw [eC]; simp [*]), if_neg (by rw [tk]; simp [*]), eN, tk, tp]
       first
       | (rw [if_pos H87]; exact ⟨by simp [*], fr_up2C (fr_up2C (fr_up2C (fr_setAC g79)))⟩)
       | (rw [if_neg H87]; exact ⟨rfl, g79⟩))
  · skip
    subst ek
    have tk : (nI k).toNatClampNeg = k := nI_clamp (by omega)
    have hKO := (hco k hk).1
    have hTK := (hco k hk).2
    refine px_astore_4 dX11_knit_5 (by decide) rfl ?_
    refine px_aload dX11_knit_7 rfl ?_
    refine px_ifnull dX11_knit_9 ?_
    refine px_iload_n dX11_knit_12 rfl rfl ?_
    refine px_iconst (v := 0) dX11_knit_13 (by decide) ?_
    refine px_sipush (v := 7775) dX11_knit_14 (by decide) ?_
    refine px_pure3 dX11_knit_17 lX11_81 (c_X11_isWithin G _ _ _) (by decide) (Nat.le_of_ble_eq_true rfl) ?_
    refine px_if_eq (tgt := 36) dX11_knit_20 (by decide) (fun H20 => ?_) (fun H20 => ?_)
    · skip
      refine px_bipush (v := (-2)) dX11_knit_36 (by decide) ?_
      refine px_iretI dX11_knit_38 rfl ?_
      first
      | exact ⟨by simp [f_knit, *], by simp [f_knit, *]; exact fr.rf⟩
      | (rw [f_knit, if_neg (by rw [eC]; simp [*]), if_neg (by rw [tk]; simp [*]), eN, tk, tp]
         first
         | (rw [if_pos H87]; exact ⟨by simp [*], fr_up2C (fr_up2C (fr_up2C (fr_setAC g79)))⟩)
         | (rw [if_neg H87]; exact ⟨rfl, g79⟩))
    · skip
      obtain ⟨pn, hp7, ep, tp⟩ := in_ix (n := 7775) (by omega) H20
      subst ep
      refine px_iload_n dX11_knit_23 rfl rfl ?_
      refine px_aload_n dX11_knit_24 rfl rfl ?_
      refine cx_callI0 (k := 0) (i := 0) dX11_knit_25 lX11_198 rfl Nat.one_pos rfl (c_X11_lastDay G m M0 Q S hC8) (by decide) (Nat.le_of_ble_eq_true rfl) (fun x25 S25 Q25 => ?_)
      obtain ⟨rfl, e25⟩ := Q25
      obtain rfl := e25.symm
      refine px_bipush (v := 99) dX11_knit_28 (by decide) ?_
      refine px_pure3 dX11_knit_30 lX11_81 (c_X11_isWithin G _ _ _) (by decide) (Nat.le_of_ble_eq_true rfl) ?_
      refine px_if_ne (tgt := 39) dX11_knit_33 (by decide) (fun H33 => ?_) (fun H33 => ?_)
      · skip
        refine px_aload dX11_knit_39 rfl ?_
        refine cx_get (k := 33) (i := k) (f := 4) dX11_knit_41 (gk_X11_130 _) rfl (show k < Q.2.1 by omega) rfl ?_
        refine px_if_eq (tgt := 50) dX11_knit_44 (by decide) (fun H44 => ?_) (fun H44 => ?_)
        · skip
          refine px_aload_n dX11_knit_50 rfl rfl ?_
          refine cx_get (k := 0) (i := 0) (f := 8) dX11_knit_51 gX11_38 rfl Nat.one_pos rfl ?_
          refine px_aload dX11_knit_54 rfl ?_
          refine px_aload_n dX11_knit_56 rfl rfl ?_
          refine cx_get (k := 0) (i := 0) (f := 6) dX11_knit_57 gX11_65 rfl Nat.one_pos rfl ?_
          rw [hRU]
          refine px_aload_n dX11_knit_60 rfl rfl ?_
          refine cx_get (k := 0) (i := 0) (f := 0) dX11_knit_61 gX11_10 rfl Nat.one_pos rfl ?_
          refine px_aload_n dX11_knit_64 rfl rfl ?_
          refine cx_get (k := 0) (i := 0) (f := 0) dX11_knit_65 gX11_10 rfl Nat.one_pos rfl ?_
          refine cx_get (k := 1) (i := 0) (f := 0) dX11_knit_68 gX11_85 rfl Nat.one_pos rfl ?_
          refine cx_callV4 (k := 13) (i := 0) dX11_knit_71 lX11_164 rfl (show 0 < 2 by omega) rfl (c_X3_layOut G m M0 Q S 0 n t k 2 0 2 (by decide) (hPH.lh hk) (fun _ => rfl) Nat.one_pos (by decide) (fun _ => rfl) (Or.inl rfl)) (by decide) (Nat.le_of_ble_eq_true rfl) (fun S71 Q71 => ?_)
          obtain ⟨f71, L71⟩ := Q71
          rw [setA_id] at L71
          refine px_aload_n dX11_knit_74 rfl rfl ?_
          refine cx_get (k := 0) (i := 0) (f := 8) dX11_knit_75 gX11_38 rfl Nat.one_pos rfl ?_
          refine px_iload_n dX11_knit_78 rfl rfl ?_
          refine cx_callI1 (k := 13) (i := 0) dX11_knit_79 lX11_182 rfl (show 0 < 2 by omega) rfl (c_X3_firstWrong G m M0 Q S71 0 n k pn S (by decide) L71 hn6 (by omega)) (by decide) (Nat.le_of_ble_eq_true rfl) (fun x79 S79 Q79 => ?_)
          obtain ⟨rfl, f79⟩ := Q79
          have g79 : fr (scC 0 t) S S79 := f71.tr (f79.mono scK_C)
          have L79 := L71.frK f79
          refine px_istore_5 dX11_knit_82 (by decide) rfl ?_
          refine px_iload dX11_knit_84 rfl ?_
          refine px_iconst (v := (-1)) dX11_knit_86 (by decide) ?_
          refine px_icmp_ne (tgt := 112) dX11_knit_87 (by decide) (fun H87 => ?_) (fun H87 => ?_)
          · skip
            refine px_iload dX11_knit_112 rfl ?_
            refine px_iretI dX11_knit_114 rfl ?_
            first
            | exact ⟨by simp [f_knit, *], by simp [f_knit, *]; exact fr.rf⟩
            | (rw [f_knit, if_neg (by rw [eC]; simp [*]), if_neg (by rw [tk]; simp [*]), eN, tk, tp]
               first
               | (rw [if_pos H87]; exact ⟨by simp [*], fr_up2C (fr_up2C (fr_up2C (fr_setAC g79)))⟩)
               | (rw [if_neg H87]; exact ⟨rfl, g79⟩))
          · skip
            refine px_aload_n dX11_knit_90 rfl rfl ?_
            refine cx_get (k := 0) (i := 0) (f := 8) dX11_knit_91 gX11_38 rfl Nat.one_pos rfl ?_
            refine px_iload_n dX11_knit_94 rfl rfl ?_
            refine px_aload_n dX11_knit_95 rfl rfl ?_
            refine cx_get (k := 0) (i := 0) (f := 0) dX11_knit_96 gX11_10 rfl Nat.one_pos rfl ?_
            refine cx_get (k := 1) (i := 0) (f := 0) dX11_knit_99 gX11_85 rfl Nat.one_pos rfl ?_
            refine cx_callV2 (k := 13) (i := 0) dX11_knit_102 lX11_201 rfl (show 0 < 2 by omega) rfl (c_X3_takeAway G m M0 Q S79 0 n k pn 2 0 2 S (by decide) L79 hn6 (by omega) (fun _ => rfl) Nat.one_pos (by decide) (fun _ => rfl) (by decide) (g79 2 (scC_n (by omega) (by decide) (by omega))).symm) (by decide) (Nat.le_of_ble_eq_true rfl) (fun S102 Q102 => ?_)
            obtain rfl := Q102.symm
            refine px_aload dX11_knit_105 rfl ?_
            refine px_iload_n dX11_knit_107 rfl rfl ?_
            refine px_iload_n dX11_knit_108 rfl rfl ?_
            refine cx_callOV2 (k := 33) (i := k) dX11_knit_109 (ko_X11_205 _) rfl (show k < Q.2.1 by omega) (vk_cl _) (c_X2_finish G m M0 Q _ k (nI pn) day hk) (by decide) (Nat.le_of_ble_eq_true rfl) (fun S109 Q109 => ?_)
            obtain rfl := Q109.symm
            refine px_iload dX11_knit_112 rfl ?_
            refine px_iretI dX11_knit_114 rfl ?_
            first
            | exact ⟨by simp [f_knit, *], by simp [f_knit, *]; exact fr.rf⟩
            | (rw [f_knit, if_neg (by rw [eC]; simp [*]), if_neg (by rw [tk]; simp [*]), eN, tk, tp]
               first
               | (rw [if_pos H87]; exact ⟨by simp [*], fr_up2C (fr_up2C (fr_up2C (fr_setAC g79)))⟩)
               | (rw [if_neg H87]; exact ⟨rfl, g79⟩))
        · skip
          refine px_bipush (v := (-3)) dX11_knit_47 (by decide) ?_
          refine px_iretI dX11_knit_49 rfl ?_
          first
          | exact ⟨by simp [f_knit, *], by simp [f_knit, *]; exact fr.rf⟩
          | (rw [f_knit, if_neg (by rw [eC]; simp [*]), if_neg (by rw [tk]; simp [*]), eN, tk, tp]
             first
             | (rw [if_pos H87]; exact ⟨by simp [*], fr_up2C (fr_up2C (fr_up2C (fr_setAC g79)))⟩)
             | (rw [if_neg H87]; exact ⟨rfl, g79⟩))
      · skip
        refine px_bipush (v := (-2)) dX11_knit_36 (by decide) ?_
        refine px_iretI dX11_knit_38 rfl ?_
        first
        | exact ⟨by simp [f_knit, *], by simp [f_knit, *]; exact fr.rf⟩
        | (rw [f_knit, if_neg (by rw [eC]; simp [*]), if_neg (by rw [tk]; simp [*]), eN, tk, tp]
           first
           | (rw [if_pos H87]; exact ⟨by simp [*], fr_up2C (fr_up2C (fr_up2C (fr_setAC g79)))⟩)
           | (rw [if_neg H87]; exact ⟨rfl, g79⟩))
  -- end
theorem bk_eq {S : MS} {c k : Nat} (hT : TKB S c) (hk : k < 5) : jMax (mTk S c (nI k) - 1) 0 = bk S c k := by
  obtain ⟨a, ha, e⟩ := hT k hk
  unfold jMax bk
  rw [e]
  by_cases h : a = 0
  · subst h; decide
  · rw [nIs (by omega), if_neg (nI_nz (by omega)), if_pos (show (0 : Int32) < nI a from (nI_ltI (a := 0) (by omega) (by omega)).mpr (by omega))]
theorem uF_up {S : MS} {c p k : Nat} : up2 (setA S 2 (uF S c p k)) 2 (dg p k) (uF S c p k (dg p k) + bk S c k) = setA S 2 (uF S c p (k + 1)) := by
  rw [setA_up]
  rfl
theorem uF_0 {S : MS} {c p : Nat} : setA S 2 (uF S c p 0) = S := setA_id
set_option maxHeartbeats 4000000 in
set_option maxRecDepth 100000 in
theorem lp_undoC (G : Gt) (m : Nat → Prop) (M0 : Nat → va_E) (Q : Qt) (S : MS) (k pn : Nat) (hk : k < Q.2.1) (hKO : KO S k) (hT : TKB S k) (hp : pn < 7776) (h12 : S 12 k = nI pn) (Post : Option Value → MS → Prop) (K : PX G (CPic G m M0 Q) 3 Y11_undo 81 [some (.ref (Q.1 0 0)), some (.int (nI k)), some (.ref (Q.1 33 k)), some (.int (uS S k 5)), some (.int (nI 5)), none] [] (setA S 2 (uF S k pn 5)) 0 0 Post) : ∀ (kk j : Nat), j ≤ 5 → 5 + 1 ≤ j + kk → PX G (CPic G m M0 Q) 3 Y11_undo 28 [some (.ref (Q.1 0 0)), some (.int (nI k)), some (.ref (Q.1 33 k)), some (.int (uS S k j)), some (.int (nI j)), none] [] (setA S 2 (uF S k pn j)) 0 0 Post := by
  intro kk
  induction kk with
  | zero => intro j h1 h2; omega
  | succ kk ih =>
    intro j h1 h2
    refine px_iload dX11_undo_28 rfl ?_
    refine px_iconst (v := 5) dX11_undo_30 (by decide) ?_
    refine px_icmp_ge (tgt := 81) dX11_undo_31 (by decide) (fun H31 => ?_) (fun H31 => ?_)
    · skip
      skip
      have eN : j = 5 := by have := ge_n (a := j) (b := 5) (by omega) (by omega) H31; omega
      rw [eN]
      exact K
    · skip
      skip
      have lN : j < 5 := lt_n (a := j) (b := 5) (by omega) (by omega) H31
      refine px_aload_n dX11_undo_34 rfl rfl ?_
      refine px_iload dX11_undo_35 rfl ?_
      refine cx_callOI1 (k := 33) (i := k) dX11_undo_37 (ko_X11_102 _) rfl (show k < Q.2.1 by omega) (vk_cl _) (c_takesV G m M0 Q (setA S 2 (uF S k pn j)) k _ hk hKO) (by decide) (Nat.le_of_ble_eq_true rfl) (fun x37 S37 Q37 => ?_)
      obtain ⟨rfl, e37⟩ := Q37
      obtain rfl := e37.symm
      rw [mTk_U]
      refine px_iconst (v := 1) dX11_undo_40 (by decide) ?_
      refine px_isub dX11_undo_41 ?_
      refine px_iconst (v := 0) dX11_undo_42 (by decide) ?_
      refine px_pure2 dX11_undo_43 lX11_176 (c_J9_max_7cf53 G _ _) (by decide) (Nat.le_of_ble_eq_true rfl) ?_
      rw [bk_eq hT lN]
      refine px_istore_5 dX11_undo_46 (by decide) rfl ?_
      refine px_aload_n dX11_undo_48 rfl rfl ?_
      refine cx_get (k := 0) (i := 0) (f := 0) dX11_undo_49 gX11_10 rfl Nat.one_pos rfl ?_
      refine cx_get (k := 1) (i := 0) (f := 0) dX11_undo_52 gX11_85 rfl Nat.one_pos rfl ?_
      refine px_aload_n dX11_undo_55 rfl rfl ?_
      refine cx_get (k := 33) (i := k) (f := 5) dX11_undo_56 (gk_X11_209 _) rfl (show k < Q.2.1 by omega) rfl ?_
      rw [show setA S 2 (uF S k pn j) 12 k = nI pn from h12]
      refine px_iload dX11_undo_59 rfl ?_
      refine px_pure2 dX11_undo_61 lX11_212 (c_X11_hankOf G pn j hp lN) (by decide) (Nat.le_of_ble_eq_true rfl) ?_
      have d6 := dg_lt pn j
      refine px_dup2 dX11_undo_64 rfl rfl ?_
      refine cx_iald (k := 2) (i := 0) (r := 2) (dg pn j) dX11_undo_65 ((fun _ => rfl) _) Nat.one_pos rfl (by omega) (by decide) ?_
      rw [show setA S 2 (uF S k pn j) 2 = uF S k pn j from setA_eq]
      refine px_iload dX11_undo_66 rfl ?_
      refine px_iadd dX11_undo_68 ?_
      refine cx_iast (k := 2) (i := 0) (r := 2) (dg pn j) dX11_undo_69 (fun S' _ => (fun _ => rfl) S') Nat.one_pos (by decide) ((fun _ => rfl) _) rfl (by omega) (by decide) ?_
      refine px_iload_n dX11_undo_70 rfl rfl ?_
      refine px_iload dX11_undo_71 rfl ?_
      refine px_iadd dX11_undo_73 ?_
      refine px_istore_n3 dX11_undo_74 (by decide) rfl ?_
      refine px_iinc_4 (v := 1) dX11_undo_75 (by decide) (by decide) rfl ?_
      refine px_goto (tgt := 28) dX11_undo_78 (by decide) ?_
      refine px_lw (ls' := [some (.ref (Q.1 0 0)), some (.int (nI k)), some (.ref (Q.1 33 k)), some (.int (uS S k (j + 1))), some (.int (nI (j + 1))), none]) ?_ (px_S (S' := setA S 2 (uF S k pn (j + 1))) ?_ (ih (j + 1) (by omega) (by omega)))
      · (simp [LW, uS, LW, nI_1, *]; done)
      · exact uF_up
set_option maxHeartbeats 4000000 in
set_option maxRecDepth 100000 in
theorem c_X11_undo (G : Gt) (m : Nat → Prop) (M0 : Nat → va_E) (Q : Qt) (S : MS) (c : Int32) (n t : Nat) (hCH : CH S Q n t) (h12 : ∀ i, i < Q.2.1 → ∃ p, p < 7776 ∧ S 12 i = nI p) : PC G (CPic G m M0 Q) 3 Y11_undo [.ref (Q.1 0 0), .int c] S 0 0 (ri (fun x S' => x = (f_undo S c).1 ∧ S' = (f_undo S c).2)) := by
  obtain ⟨hPH, hC, hC8, h60, h16, hOB⟩ := hCH
  have hn1 := hPH.1
  have hn6 := hPH.2.1
  have hTX := hPH.2.2.1
  have hWB := hPH.2.2.2.1
  have hco := hPH.2.2.2.2
  have ht := hTX.2.1
  have h6 := hTX.2.2.1
  have hRU : (S 60 0).toNatClampNeg = t := by rw [h60, nI_clamp (by omega)]
  have eN := hN_eq hn1 (by omega)
  have eC := cN_eq hC (by omega)
  refine pc_of (ls := [some (.ref (Q.1 0 0)), some (.int c), none, none, none, none]) (by decide +kernel) rfl (Nat.le_of_ble_eq_true rfl) ?_
  refine px_aload_n dX11_undo_0 rfl rfl ?_
  refine px_iload_n dX11_undo_1 rfl rfl ?_
  refine cx_callR1 (k := 0) (i := 0) dX11_undo_2 lX11_98 rfl Nat.one_pos rfl (c_X11_coatAt G m M0 Q S c hC hC8) (by decide) (Nat.le_of_ble_eq_true rfl) (fun x2 S2 Q2 => ?_)
  obtain ⟨hx2, e2⟩ := Q2
  obtain rfl := e2.symm
  rcases hx2 with ⟨hct, rfl⟩ | ⟨hct, k, hk, ek, rfl⟩
  · skip
    refine px_astoreN_n2 dX11_undo_5 (by decide) rfl ?_
    refine px_aload_nN dX11_undo_6 rfl rfl ?_
    refine px_ifnonnullN dX11_undo_7 ?_
    refine px_bipush (v := (-2)) dX11_undo_10 (by decide) ?_
    refine px_iretI dX11_undo_12 rfl ?_
    first | (rw [f_undo, if_neg hct, tk, if_neg H17, epn, nI_clamp (by omega)]; exact ⟨rfl, rfl⟩) | (exact ⟨by simp [f_undo, *], by simp [f_undo, *]⟩)
  · skip
    subst ek
    have tk : (nI k).toNatClampNeg = k := nI_clamp (by omega)
    have hKO := (hco k hk).1
    have hTK := (hco k hk).2
    refine px_astore_n2 dX11_undo_5 (by decide) rfl ?_
    refine px_aload_n dX11_undo_6 rfl rfl ?_
    refine px_ifnonnull (tgt := 13) dX11_undo_7 (by decide) ?_
    refine px_aload_n dX11_undo_13 rfl rfl ?_
    refine cx_get (k := 33) (i := k) (f := 4) dX11_undo_14 (gk_X11_130 _) rfl (show k < Q.2.1 by omega) rfl ?_
    refine px_if_ne (tgt := 23) dX11_undo_17 (by decide) (fun H17 => ?_) (fun H17 => ?_)
    · skip
      refine px_iconst (v := 0) dX11_undo_23 (by decide) ?_
      refine px_istore_n3 dX11_undo_24 (by decide) rfl ?_
      refine px_iconst (v := 0) dX11_undo_25 (by decide) ?_
      refine px_istore_4 dX11_undo_26 (by decide) rfl ?_
      obtain ⟨pn, hpn, epn⟩ := h12 k hk
      refine px_S (uF_0 (c := k) (p := pn)).symm (px_lw (ls' := [some (.ref (Q.1 0 0)), some (.int (nI k)), some (.ref (Q.1 33 k)), some (.int (uS S k 0)), some (.int (nI 0)), none]) (by simp [LW, uS] <;> first | rfl | exact ⟨rfl, rfl⟩) (lp_undoC G m M0 Q S k pn hk hKO hTK hpn epn _ ?_ 6 0 (by omega) (by omega)))
      refine px_aload_n dX11_undo_81 rfl rfl ?_
      refine px_iconst (v := 0) dX11_undo_82 (by decide) ?_
      refine cx_put (k := 33) (i := k) (f := 4) (r := 11) (j := k) dX11_undo_83 (gk_X11_130 _) rfl (show k < Q.2.1 by omega) (Nat.le_of_ble_eq_true rfl) (by decide) rfl (cpe_33_4 k _) rfl rfl ?_
      refine px_iload_n dX11_undo_86 rfl rfl ?_
      refine px_iretI dX11_undo_87 rfl ?_
      first | (rw [f_undo, if_neg hct, tk, if_neg H17, epn, nI_clamp (by omega)]; exact ⟨rfl, rfl⟩) | (exact ⟨by simp [f_undo, *], by simp [f_undo, *]⟩)
    · skip
      refine px_bipush (v := (-3)) dX11_undo_20 (by decide) ?_
      refine px_iretI dX11_undo_22 rfl ?_
      first | (rw [f_undo, if_neg hct, tk, if_neg H17, epn, nI_clamp (by omega)]; exact ⟨rfl, rfl⟩) | (exact ⟨by simp [f_undo, *], by simp [f_undo, *]⟩)
  -- end
theorem hk_none {S : MS} {n : Nat} (h : S 1 0 = nI n) (hn : n ≤ 6) : mHk S (-1) = 0 := by
  unfold mHk
  exact mIn_0.mpr (Or.inl (by decide))
theorem hk_some {S : MS} {n j : Nat} (h : S 1 0 = nI n) (hn : n ≤ 6) (hj : j < n) : ¬ mHk S (nI j) = 0 := by
  unfold mHk
  rw [h, nIs (by omega)]
  exact mIn_1.mpr ⟨nI_nneg (by omega), fun q => by have := lt_n (by omega) (by omega) q; omega⟩
set_option maxHeartbeats 4000000 in
set_option maxRecDepth 100000 in
theorem c_X11_most (G : Gt) (m : Nat → Prop) (M0 : Nat → va_E) (Q : Qt) (S : MS) (w : Int32) (n t : Nat) (hCH : CH S Q n t) : PC G (CPic G m M0 Q) 15 Y11_most [.ref (Q.1 0 0), .int w] S 0 0 (ri (fun x S' => x = f_most S w ∧ frQ t S S')) := by
  obtain ⟨hPH, hC, hC8, h60, h16, hOB⟩ := hCH
  have hn1 := hPH.1
  have hn6 := hPH.2.1
  have hTX := hPH.2.2.1
  have hWB := hPH.2.2.2.1
  have hco := hPH.2.2.2.2
  have ht := hTX.2.1
  have h6 := hTX.2.2.1
  have hRU : (S 60 0).toNatClampNeg = t := by rw [h60, nI_clamp (by omega)]
  have eN := hN_eq hn1 (by omega)
  have eC := cN_eq hC (by omega)
  refine pc_of (ls := [some (.ref (Q.1 0 0)), some (.int w)]) (by decide +kernel) rfl (Nat.le_of_ble_eq_true rfl) ?_
  refine px_iload_n dX11_most_0 rfl rfl ?_
  refine px_iconst (v := 0) dX11_most_1 (by decide) ?_
  refine px_iconst (v := 2) dX11_most_2 (by decide) ?_
  refine px_pure3 dX11_most_3 lX11_81 (c_X11_isWithin G _ _ _) (by decide) (Nat.le_of_ble_eq_true rfl) ?_
  refine px_if_ne (tgt := 12) dX11_most_6 (by decide) (fun H6 => ?_) (fun H6 => ?_)
  · skip
    refine px_iload_n dX11_most_12 rfl rfl ?_
    refine px_iconst (v := 2) dX11_most_13 (by decide) ?_
    refine px_icmp_ne (tgt := 36) dX11_most_14 (by decide) (fun H14 => ?_) (fun H14 => ?_)
    · skip
      refine px_aload_n dX11_most_36 rfl rfl ?_
      refine cx_get (k := 0) (i := 0) (f := 9) dX11_most_37 gX11_45 rfl Nat.one_pos rfl ?_
      refine px_aload_n dX11_most_40 rfl rfl ?_
      refine cx_get (k := 0) (i := 0) (f := 1) dX11_most_41 gX11_18 rfl Nat.one_pos rfl ?_
      refine px_aload_n dX11_most_44 rfl rfl ?_
      refine cx_get (k := 0) (i := 0) (f := 6) dX11_most_45 gX11_65 rfl Nat.one_pos rfl ?_
      rw [hRU]
      refine px_aload_n dX11_most_48 rfl rfl ?_
      refine cx_get (k := 0) (i := 0) (f := 0) dX11_most_49 gX11_10 rfl Nat.one_pos rfl ?_
      refine px_iconst (v := (-1)) dX11_most_52 (by decide) ?_
      refine px_iconst (v := 0) dX11_most_53 (by decide) ?_
      refine cx_callV5 (k := 20) (i := 0) dX11_most_54 lX11_222 rfl Nat.one_pos rfl (c_X5_plan G m M0 Q S n t (-1) 0 S hPH (fun _ _ _ => rfl) hOB (fun _ _ _ => rfl) (fun q => absurd (hk_none hn1 hn6) q)) (by decide) (Nat.le_of_ble_eq_true rfl) (fun S54 Q54 => ?_)
      obtain ⟨f54, w54⟩ := Q54
      refine px_iload_n dX11_most_57 rfl rfl ?_
      refine px_if_ne (tgt := 71) dX11_most_58 (by decide) (fun H58 => ?_) (fun H58 => ?_)
      · skip
        refine px_aload_n dX11_most_71 rfl rfl ?_
        refine cx_get (k := 0) (i := 0) (f := 9) dX11_most_72 gX11_45 rfl Nat.one_pos rfl ?_
        refine cx_get (k := 20) (i := 0) (f := 1) dX11_most_75 gX11_229 rfl Nat.one_pos rfl ?_
        refine px_iretI dX11_most_78 rfl ?_
        first
        | exact ⟨by simp [f_most, *], frQ.rf⟩
        | (refine ⟨?_, fun r a b c d e f => f32 r (by simp only [List.mem_cons, List.not_mem_nil, or_false]; exact b)⟩
           rw [f_most, if_neg H6, eN, eC, if_neg (by rw [H14]; decide), Nat.min_comm])
        | (refine ⟨?_, f54⟩
           rw [f_most, if_neg H6, eN, eC]
           obtain ⟨j, hj, e, -⟩ := in_ix (n := 2) (by omega) H6
           have hw2 : w < 2 := by
             rw [e]
             have : j ≠ 2 := fun q => H14 (by rw [e, q]; rfl)
             exact (nI_ltI (b := 2) (by omega) (by omega)).mpr (by omega)
           rw [if_pos hw2]
           first
           | (rw [if_pos H58]; exact w54.1)
           | (rw [if_neg H58]; exact w54.2.1))
      · skip
        refine px_aload_n dX11_most_61 rfl rfl ?_
        refine cx_get (k := 0) (i := 0) (f := 9) dX11_most_62 gX11_45 rfl Nat.one_pos rfl ?_
        refine cx_get (k := 20) (i := 0) (f := 0) dX11_most_65 gX11_226 rfl Nat.one_pos rfl ?_
        refine px_goto (tgt := 78) dX11_most_68 (by decide) ?_
        refine px_iretI dX11_most_78 rfl ?_
        first
        | exact ⟨by simp [f_most, *], frQ.rf⟩
        | (refine ⟨?_, fun r a b c d e f => f32 r (by simp only [List.mem_cons, List.not_mem_nil, or_false]; exact b)⟩
           rw [f_most, if_neg H6, eN, eC, if_neg (by rw [H14]; decide), Nat.min_comm])
        | (refine ⟨?_, f54⟩
           rw [f_most, if_neg H6, eN, eC]
           obtain ⟨j, hj, e, -⟩ := in_ix (n := 2) (by omega) H6
           have hw2 : w < 2 := by
             rw [e]
             have : j ≠ 2 := fun q => H14 (by rw [e, q]; rfl)
             exact (nI_ltI (b := 2) (by omega) (by omega)).mpr (by omega)
           rw [if_pos hw2]
           first
           | (rw [if_pos H58]; exact w54.1)
           | (rw [if_neg H58]; exact w54.2.1))
    · skip
      refine px_aload_n dX11_most_17 rfl rfl ?_
      refine cx_get (k := 0) (i := 0) (f := 9) dX11_most_18 gX11_45 rfl Nat.one_pos rfl ?_
      refine px_aload_n dX11_most_21 rfl rfl ?_
      refine cx_get (k := 0) (i := 0) (f := 1) dX11_most_22 gX11_18 rfl Nat.one_pos rfl ?_
      refine px_aload_n dX11_most_25 rfl rfl ?_
      refine cx_get (k := 0) (i := 0) (f := 0) dX11_most_26 gX11_10 rfl Nat.one_pos rfl ?_
      refine cx_callI0 (k := 1) (i := 0) dX11_most_29 lX11_215 rfl Nat.one_pos rfl (c_X10_ouncesInAll G m M0 Q S n hn1 hn6) (by decide) (Nat.le_of_ble_eq_true rfl) (fun x29 S29 Q29 => ?_)
      obtain ⟨rfl, e29⟩ := Q29
      obtain rfl := e29.symm
      refine cx_callI2 (k := 20) (i := 0) dX11_most_32 lX11_218 rfl Nat.one_pos rfl (c_X5_bound G m M0 Q S n (fun c hc => (hco c hc).1)) (by decide) (Nat.le_of_ble_eq_true rfl) (fun x32 S32 Q32 => ?_)
      obtain ⟨rfl, f32⟩ := Q32
      refine px_iretI dX11_most_35 rfl ?_
      first
      | exact ⟨by simp [f_most, *], frQ.rf⟩
      | (refine ⟨?_, fun r a b c d e f => f32 r (by simp only [List.mem_cons, List.not_mem_nil, or_false]; exact b)⟩
         rw [f_most, if_neg H6, eN, eC, if_neg (by rw [H14]; decide), Nat.min_comm])
      | (refine ⟨?_, f54⟩
         rw [f_most, if_neg H6, eN, eC]
         obtain ⟨j, hj, e, -⟩ := in_ix (n := 2) (by omega) H6
         have hw2 : w < 2 := by
           rw [e]
           have : j ≠ 2 := fun q => H14 (by rw [e, q]; rfl)
           exact (nI_ltI (b := 2) (by omega) (by omega)).mpr (by omega)
         rw [if_pos hw2]
         first
         | (rw [if_pos H58]; exact w54.1)
         | (rw [if_neg H58]; exact w54.2.1))
  · skip
    refine px_bipush (v := (-2)) dX11_most_9 (by decide) ?_
    refine px_iretI dX11_most_11 rfl ?_
    first
    | exact ⟨by simp [f_most, *], frQ.rf⟩
    | (refine ⟨?_, fun r a b c d e f => f32 r (by simp only [List.mem_cons, List.not_mem_nil, or_false]; exact b)⟩
       rw [f_most, if_neg H6, eN, eC, if_neg (by rw [H14]; decide), Nat.min_comm])
    | (refine ⟨?_, f54⟩
       rw [f_most, if_neg H6, eN, eC]
       obtain ⟨j, hj, e, -⟩ := in_ix (n := 2) (by omega) H6
       have hw2 : w < 2 := by
         rw [e]
         have : j ≠ 2 := fun q => H14 (by rw [e, q]; rfl)
         exact (nI_ltI (b := 2) (by omega) (by omega)).mpr (by omega)
       rw [if_pos hw2]
       first
       | (rw [if_pos H58]; exact w54.1)
       | (rw [if_neg H58]; exact w54.2.1))
theorem OB_up {S : MS} {n j : Nat} {x : Int32} (hO : ∀ h, h < n → ∃ a, a ≤ 40000 ∧ S 2 h = nI a) (hx : ∃ b, b ≤ 50 ∧ x = nI b) : OB (setA S 2 (upd (S 2) j (S 2 j + x))) n := by
  intro h hh
  obtain ⟨a, ha, ea⟩ := hO h hh
  obtain ⟨b, hb, eb⟩ := hx
  rw [setA_eq]
  by_cases e : h = j
  · subst e
    exact ⟨a + b, by omega, by rw [pk_us, ea, eb, nI_add]⟩
  · exact ⟨a, by omega, by rw [pk_un e]; exact ea⟩
theorem CH.fq {S T : MS} {Q : Qt} {n t : Nat} (hCH : CH S Q n t) (h : frQ t S T) : CH T Q n t := by
  obtain ⟨a, b, c, d, e, f⟩ := hCH
  have hk := h.fk
  have h6 := a.2.2.1.2.2.1
  have ht := a.2.2.1.2.1
  exact ⟨a.gQ h, by rw [hk 6 (by decide)]; exact b, c, by rw [h 60 (by omega) (by omega) (by omega) (by omega) (by omega) (by omega)]; exact d, by rw [hk 16 (by decide)]; exact e, fun x hx => by rw [hk 2 (by decide)]; exact f x hx⟩
set_option maxHeartbeats 4000000 in
set_option maxRecDepth 100000 in
theorem lp_more (G : Gt) (m : Nat → Prop) (M0 : Nat → va_E) (Q : Qt) (S : MS) (n t : Nat) (x : Int32) (hCH : CH S Q n t) (hO : ∀ h, h < n → ∃ a, a ≤ 40000 ∧ S 2 h = nI a) (hx : ∃ b, b ≤ 50 ∧ x = nI b) (Post : Option Value → MS → Prop) (K : ∀ T : MS, frQ t S T → PX G (CPic G m M0 Q) 15 Y11_more 109 [some (.ref (Q.1 0 0)), some (.int x), some (.int (moF S n Q.2.1 x n).1), some (.int (moF S n Q.2.1 x n).2), some (.int (nI n))] [] T 0 0 Post) : ∀ (kk h : Nat) (T : MS), frQ t S T → h ≤ n → n + 1 ≤ h + kk → PX G (CPic G m M0 Q) 15 Y11_more 47 [some (.ref (Q.1 0 0)), some (.int x), some (.int (moF S n Q.2.1 x h).1), some (.int (moF S n Q.2.1 x h).2), some (.int (nI h))] [] T 0 0 Post := by
  have hCH0 := hCH
  obtain ⟨hPH, hC, hC8, h60, h16, hOB⟩ := hCH
  have hn1 := hPH.1
  have hn6 := hPH.2.1
  have hTX := hPH.2.2.1
  have hWB := hPH.2.2.2.1
  have hco := hPH.2.2.2.2
  have ht := hTX.2.1
  have h6 := hTX.2.2.1
  have hRU : (S 60 0).toNatClampNeg = t := by rw [h60, nI_clamp (by omega)]
  have eN := hN_eq hn1 (by omega)
  have eC := cN_eq hC (by omega)
  intro kk
  induction kk with
  | zero => intro h T hf h1 h2; omega
  | succ kk ih =>
    intro h T hf h1 h2
    refine px_iload dX11_more_47 rfl ?_
    refine px_aload_n dX11_more_49 rfl rfl ?_
    refine cx_get (k := 0) (i := 0) (f := 0) dX11_more_50 gX11_10 rfl Nat.one_pos rfl ?_
    refine cx_get (k := 1) (i := 0) (f := 4) dX11_more_53 gX11_171 rfl Nat.one_pos rfl ?_
    refine px_icmp_ge (tgt := 109) dX11_more_56 (by decide) (fun H56 => ?_) (fun H56 => ?_)
    · skip
      rw [show T 1 0 = nI n from (hCH0.fq hf).1.1] at H56
      have eN : h = n := by have := ge_n (a := h) (b := n) (by omega) (by omega) H56; omega
      rw [eN]
      exact px_lw (ls' := [some (.ref (Q.1 0 0)), some (.int x), some (.int (moF S n Q.2.1 x n).1), some (.int (moF S n Q.2.1 x n).2), some (.int (nI n))]) (by simp [LW]) (K T hf)
    · skip
      rw [show T 1 0 = nI n from (hCH0.fq hf).1.1] at H56
      have lN : h < n := lt_n (a := h) (b := n) (by omega) (by omega) H56
      have hCT := hCH0.fq hf
      have hkT := hf.fk
      have hRU : (T 60 0).toNatClampNeg = t := by rw [hCT.2.2.2.1, nI_clamp (by omega)]
      refine px_aload_n dX11_more_59 rfl rfl ?_
      refine cx_get (k := 0) (i := 0) (f := 9) dX11_more_60 gX11_45 rfl Nat.one_pos rfl ?_
      refine px_aload_n dX11_more_63 rfl rfl ?_
      refine cx_get (k := 0) (i := 0) (f := 1) dX11_more_64 gX11_18 rfl Nat.one_pos rfl ?_
      refine px_aload_n dX11_more_67 rfl rfl ?_
      refine cx_get (k := 0) (i := 0) (f := 6) dX11_more_68 gX11_65 rfl Nat.one_pos rfl ?_
      rw [hRU]
      refine px_aload_n dX11_more_71 rfl rfl ?_
      refine cx_get (k := 0) (i := 0) (f := 0) dX11_more_72 gX11_10 rfl Nat.one_pos rfl ?_
      refine px_iload dX11_more_75 rfl ?_
      refine px_iload_n dX11_more_77 rfl rfl ?_
      refine cx_callV5 (k := 20) (i := 0) dX11_more_78 lX11_222 rfl Nat.one_pos rfl (c_X5_plan G m M0 Q T n t (nI h) x (setA S 2 (upd (S 2) h (S 2 h + x))) hCT.1 (fun r hr he => by rw [setA_ne he, hkT r hr]) (OB_up hO hx) (fun q => absurd q (hk_some hCT.1.1 hn6 lN)) (fun _ => ⟨h, lN, rfl, fun y hy => by rw [setA_eq, hkT 2 (by decide)]⟩)) (by decide) (Nat.le_of_ble_eq_true rfl) (fun S78 Q78 => ?_)
      obtain ⟨f78, w78⟩ := Q78
      have g78 := hf.tr f78
      refine px_aload_n dX11_more_81 rfl rfl ?_
      refine cx_get (k := 0) (i := 0) (f := 9) dX11_more_82 gX11_45 rfl Nat.one_pos rfl ?_
      refine cx_get (k := 20) (i := 0) (f := 0) dX11_more_85 gX11_226 rfl Nat.one_pos rfl ?_
      rw [w78.1]
      refine px_iload_n dX11_more_88 rfl rfl ?_
      refine px_icmp_le (tgt := 103) dX11_more_89 (by decide) (fun H89 => ?_) (fun H89 => ?_)
      · skip
        refine px_iinc_4 (v := 1) dX11_more_103 (by decide) (by decide) rfl ?_
        refine px_goto (tgt := 47) dX11_more_106 (by decide) ?_
        refine px_lw (ls' := [some (.ref (Q.1 0 0)), some (.int x), some (.int (moF S n Q.2.1 x (h + 1)).1), some (.int (moF S n Q.2.1 x (h + 1)).2), some (.int (nI (h + 1)))]) ?_ (ih (h + 1) _ g78 (by omega) (by omega))
        first
        | (simp [LW, moF, nI_1, *]; done)
        | (simp [LW, moF, nI_1, *]; rfl)
      · skip
        refine px_aload_n dX11_more_92 rfl rfl ?_
        refine cx_get (k := 0) (i := 0) (f := 9) dX11_more_93 gX11_45 rfl Nat.one_pos rfl ?_
        refine cx_get (k := 20) (i := 0) (f := 0) dX11_more_96 gX11_226 rfl Nat.one_pos rfl ?_
        rw [w78.1]
        refine px_istore_n2 dX11_more_99 (by decide) rfl ?_
        refine px_iload dX11_more_100 rfl ?_
        refine px_istore_n3 dX11_more_102 (by decide) rfl ?_
        refine px_iinc_4 (v := 1) dX11_more_103 (by decide) (by decide) rfl ?_
        refine px_goto (tgt := 47) dX11_more_106 (by decide) ?_
        refine px_lw (ls' := [some (.ref (Q.1 0 0)), some (.int x), some (.int (moF S n Q.2.1 x (h + 1)).1), some (.int (moF S n Q.2.1 x (h + 1)).2), some (.int (nI (h + 1)))]) ?_ (ih (h + 1) _ g78 (by omega) (by omega))
        first
        | (simp [LW, moF, nI_1, *]; done)
        | (simp [LW, moF, nI_1, *]; rfl)
set_option maxHeartbeats 4000000 in
set_option maxRecDepth 100000 in
theorem c_X11_more (G : Gt) (m : Nat → Prop) (M0 : Nat → va_E) (Q : Qt) (S : MS) (x : Int32) (n t : Nat) (hCH : CH S Q n t) (hO : ∀ h, h < n → ∃ a, a ≤ 40000 ∧ S 2 h = nI a) : PC G (CPic G m M0 Q) 15 Y11_more [.ref (Q.1 0 0), .int x] S 0 0 (ri (fun y S' => y = f_more S x ∧ frQ t S S')) := by
  have hCH0 := hCH
  obtain ⟨hPH, hC, hC8, h60, h16, hOB⟩ := hCH
  have hn1 := hPH.1
  have hn6 := hPH.2.1
  have hTX := hPH.2.2.1
  have hWB := hPH.2.2.2.1
  have hco := hPH.2.2.2.2
  have ht := hTX.2.1
  have h6 := hTX.2.2.1
  have hRU : (S 60 0).toNatClampNeg = t := by rw [h60, nI_clamp (by omega)]
  have eN := hN_eq hn1 (by omega)
  have eC := cN_eq hC (by omega)
  refine pc_of (ls := [some (.ref (Q.1 0 0)), some (.int x), none, none, none]) (by decide +kernel) rfl (Nat.le_of_ble_eq_true rfl) ?_
  refine px_iload_n dX11_more_0 rfl rfl ?_
  refine px_iconst (v := 1) dX11_more_1 (by decide) ?_
  refine px_bipush (v := 50) dX11_more_2 (by decide) ?_
  refine px_pure3 dX11_more_4 lX11_81 (c_X11_isWithin G _ _ _) (by decide) (Nat.le_of_ble_eq_true rfl) ?_
  refine px_if_ne (tgt := 13) dX11_more_7 (by decide) (fun H7 => ?_) (fun H7 => ?_)
  · skip
    have hx : ∃ b, b ≤ 50 ∧ x = nI b := by
      obtain ⟨q1, q2⟩ := mIn_1.mp H7
      rw [i_lt, show (1 : Int32).toInt = 1 from rfl] at q1
      rw [i_lt, show (50 : Int32).toInt = 50 from rfl] at q2
      exact ⟨x.toInt.toNat, by omega, by rw [i_eq, nI_toInt' (by omega)]; omega⟩
    refine px_aload_n dX11_more_13 rfl rfl ?_
    refine cx_get (k := 0) (i := 0) (f := 9) dX11_more_14 gX11_45 rfl Nat.one_pos rfl ?_
    refine px_aload_n dX11_more_17 rfl rfl ?_
    refine cx_get (k := 0) (i := 0) (f := 1) dX11_more_18 gX11_18 rfl Nat.one_pos rfl ?_
    refine px_aload_n dX11_more_21 rfl rfl ?_
    refine cx_get (k := 0) (i := 0) (f := 6) dX11_more_22 gX11_65 rfl Nat.one_pos rfl ?_
    rw [hRU]
    refine px_aload_n dX11_more_25 rfl rfl ?_
    refine cx_get (k := 0) (i := 0) (f := 0) dX11_more_26 gX11_10 rfl Nat.one_pos rfl ?_
    refine px_iconst (v := (-1)) dX11_more_29 (by decide) ?_
    refine px_iconst (v := 0) dX11_more_30 (by decide) ?_
    refine cx_callV5 (k := 20) (i := 0) dX11_more_31 lX11_222 rfl Nat.one_pos rfl (c_X5_plan G m M0 Q S n t (-1) 0 S hPH (fun _ _ _ => rfl) hOB (fun _ _ _ => rfl) (fun q => absurd (hk_none hn1 hn6) q)) (by decide) (Nat.le_of_ble_eq_true rfl) (fun S31 Q31 => ?_)
    obtain ⟨f31, w31⟩ := Q31
    refine px_aload_n dX11_more_34 rfl rfl ?_
    refine cx_get (k := 0) (i := 0) (f := 9) dX11_more_35 gX11_45 rfl Nat.one_pos rfl ?_
    refine cx_get (k := 20) (i := 0) (f := 0) dX11_more_38 gX11_226 rfl Nat.one_pos rfl ?_
    rw [w31.1]
    refine px_istore_n2 dX11_more_41 (by decide) rfl ?_
    refine px_iconst (v := (-1)) dX11_more_42 (by decide) ?_
    refine px_istore_n3 dX11_more_43 (by decide) rfl ?_
    refine px_iconst (v := 0) dX11_more_44 (by decide) ?_
    refine px_istore_4 dX11_more_45 (by decide) rfl ?_
    refine px_lw (ls' := [some (.ref (Q.1 0 0)), some (.int x), some (.int (moF S n Q.2.1 x 0).1), some (.int (moF S n Q.2.1 x 0).2), some (.int (nI 0))]) (by simp [LW, moF] <;> first | rfl | exact ⟨rfl, rfl⟩) (lp_more G m M0 Q S n t x hCH0 hO hx _ (fun T hf => ?_) (n + 1) 0 _ f31 (by omega) (by omega))
    refine px_iload_n dX11_more_109 rfl rfl ?_
    refine px_iretI dX11_more_110 rfl ?_
    first | exact ⟨by simp [f_more, *], frQ.rf⟩ | exact ⟨by rw [f_more, if_neg H7, eN, eC], hf⟩
  · skip
    refine px_bipush (v := (-2)) dX11_more_10 (by decide) ?_
    refine px_iretI dX11_more_12 rfl ?_
    first | exact ⟨by simp [f_more, *], frQ.rf⟩ | exact ⟨by rw [f_more, if_neg H7, eN, eC], hf⟩
