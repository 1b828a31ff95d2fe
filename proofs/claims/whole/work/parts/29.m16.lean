/-! THE REFERENCE: it reads as the pure reader does -/
def MC (G : Gt) (m : Nat) (h0 : Ht) (S : MS) (t n d : Nat) (Y : Yt) (F : PZ → PZ) : Prop := ∀ z, Zi t z → (zF z < 0 → 6 ≤ zO z + n) → PC G (MPic G m h0) d Y [.ref m] (layz S z) 0 0 (rv (fun S' => S' = layz S (F z)))
def MR (G : Gt) (m : Nat) (h0 : Ht) (S : MS) (t n d : Nat) (Y : Yt) (F : PZ → PZ) : Prop := ∀ z, Zi t z → zF z < 0 → 6 ≤ zO z + n → PC G (MPic G m h0) d Y [.ref m] (layz S z) 0 0 (rv (fun S' => S' = layz S (F z)))
set_option maxHeartbeats 4000000 in
set_option maxRecDepth 100000 in
theorem lp_term (G : Gt) (m : Nat) (h0 : Ht) (S : MS) (t n d : Nat) (F : PZ → PZ) (hT : S 15 0 = nI t) (hd : 4 ≤ d) (hF : FOK t n F) (hO : MC G m h0 S t n d Y12_one (F)) : ∀ (kk : Nat) (z : PZ), Zi t z → (zF z < 0 → 6 ≤ zO z + n) → 161 ≤ zA z + kk → PX G (MPic G m h0) (d + 1) Y12_term 4 [some (.ref m)] [] (layz S z) 0 0 (rv (fun S' => S' = layz S (whl kk (fun z => zSg z 42) (fun z => zAd ((F) (zN (S 14) t z)) (42, 0)) z))) := by
  intro kk
  induction kk with
  | zero => intro z hz hn hk; have := hz.1; have := hz.2.1; have := hz.2.2.1; omega
  | succ kk ih =>
    intro z hz hn hk
    refine px_aload_n dX12_term_4 rfl rfl ?_
    refine px_bipush (v := 42) dX12_term_5 (by decide) ?_
    refine mx_callI1 dX12_term_7 lX12_213 rfl (m_sign G m h0 S t z 42 hz) (by omega) (Nat.le_of_ble_eq_true rfl) (fun x7 S7 Q7 => ?_)
    obtain ⟨rfl, e7⟩ := Q7
    obtain rfl := e7.symm
    refine px_if_eq (tgt := 31) dX12_term_10 (by decide) (fun H10 => ?_) (fun H10 => ?_)
    · skip
      rw [bI_0] at H10
      have hc := H10
      refine px_return dX12_term_31 rfl ?_
      show _ = layz S (whl (kk + 1) (fun z => zSg z 42) (fun z => zAd ((F) (zN (S 14) t z)) (42, 0)) z)
      rw [whl, if_neg hc]
    · skip
      rw [bI_0] at H10
      have hc := Decidable.not_not.mp H10
      have hf := (sg_y hc).1
      refine px_aload_n dX12_term_13 rfl rfl ?_
      obtain ⟨q1, q2, q3, q4⟩ := turn_g (tp := S 14) (c := (42, 0)) hF hz hn (Or.inr (Or.inr (sg_y hc).2.1))
      refine mx_callV0 dX12_term_14 lX12_190 rfl (m_next G m h0 S t z hT hz) (by omega) (Nat.le_of_ble_eq_true rfl) (fun S14 Q14 => ?_)
      obtain rfl := Q14.symm
      refine px_aload_n dX12_term_17 rfl rfl ?_
      refine mx_callV0 dX12_term_18 lX12_219 rfl (hO (zN (S 14) t z) (zN_i hz) hn) (by omega) (Nat.le_of_ble_eq_true rfl) (fun S18 Q18 => ?_)
      obtain rfl := Q18.symm
      refine px_aload_n dX12_term_21 rfl rfl ?_
      refine px_bipush (v := 42) dX12_term_22 (by decide) ?_
      refine px_iconst (v := 0) dX12_term_24 (by decide) ?_
      refine mx_callV2 dX12_term_25 lX12_199 rfl (m_add G m h0 S (F (zN (S 14) t z)) _ _ (by have := q1.1.1; have := q1.1.2.1; have := q1.1.2.2.1; omega)) (by omega) (Nat.le_of_ble_eq_true rfl) (fun S25 Q25 => ?_)
      obtain rfl := Q25.symm
      refine px_goto (tgt := 4) dX12_term_28 (by decide) ?_
      rw [show whl (kk + 1) (fun z => zSg z 42) (fun z => zAd ((F) (zN (S 14) t z)) (42, 0)) z = whl kk (fun z => zSg z 42) (fun z => zAd ((F) (zN (S 14) t z)) (42, 0)) ((fun z => zAd ((F) (zN (S 14) t z)) (42, 0)) z) from by rw [whl, if_pos hc]]
      exact px_lw (by simp [LW]) (ih _ q3.1 (q3.n hn) (by omega))
set_option maxHeartbeats 4000000 in
set_option maxRecDepth 100000 in
theorem m_term (G : Gt) (m : Nat) (h0 : Ht) (S : MS) (t n d : Nat) (F : PZ → PZ) (hT : S 15 0 = nI t) (hd : 4 ≤ d) (hF : FOK t n F) (hO : MC G m h0 S t n d Y12_one (F)) : MC G m h0 S t n (d + 1) Y12_term (zTerm (S 14) t F) := by
  intro z hz hn
  show PC G (MPic G m h0) (d + 1) Y12_term [.ref m] (layz S z) 0 0 (rv (fun S' => S' = layz S (zTerm (S 14) t F z)))
  refine pc_of (ls := [some (.ref m)]) (by decide +kernel) rfl (Nat.le_of_ble_eq_true rfl) ?_
  refine px_aload_n dX12_term_0 rfl rfl ?_
  refine mx_callV0 dX12_term_1 lX12_219 rfl (hO z hz hn) (by omega) (Nat.le_of_ble_eq_true rfl) (fun S1 Q1 => ?_)
  obtain rfl := Q1.symm
  exact px_lw (by simp [LW]) (lp_term G m h0 S t n d F hT hd hF hO 161 _ (hF z hz hn).1 ((hF z hz hn).n hn) (by omega))
set_option maxHeartbeats 4000000 in
set_option maxRecDepth 100000 in
theorem lp_sum (G : Gt) (m : Nat) (h0 : Ht) (S : MS) (t n d : Nat) (F : PZ → PZ) (hT : S 15 0 = nI t) (hd : 4 ≤ d) (hF : FOK t n F) (hO : MC G m h0 S t n d Y12_term (zTerm (S 14) t F)) : ∀ (kk : Nat) (z : PZ), Zi t z → (zF z < 0 → 6 ≤ zO z + n) → 161 ≤ zA z + kk → PX G (MPic G m h0) (d + 1) Y12_sum 4 [some (.ref m), none] [] (layz S z) 0 0 (rv (fun S' => S' = layz S (whl kk (fun z => zSg z 43 || zSg z 45) (fun z => zAd ((zTerm (S 14) t F) (zN (S 14) t z)) (zV z, 0)) z))) := by
  intro kk
  induction kk with
  | zero => intro z hz hn hk; have := hz.1; have := hz.2.1; have := hz.2.2.1; omega
  | succ kk ih =>
    intro z hz hn hk
    refine px_aload_n dX12_sum_4 rfl rfl ?_
    refine px_bipush (v := 43) dX12_sum_5 (by decide) ?_
    refine mx_callI1 dX12_sum_7 lX12_213 rfl (m_sign G m h0 S t z 43 hz) (by omega) (Nat.le_of_ble_eq_true rfl) (fun x7 S7 Q7 => ?_)
    obtain ⟨rfl, e7⟩ := Q7
    obtain rfl := e7.symm
    refine px_if_ne (tgt := 22) dX12_sum_10 (by decide) (fun H10 => ?_) (fun H10 => ?_)
    · skip
      rw [bI_0] at H10
      have hc : (zSg z 43 || zSg z 45) = true := by simp [Decidable.not_not.mp H10]
      refine px_aload_n dX12_sum_22 rfl rfl ?_
      refine mx_getI (k := 27) dX12_sum_23 gX12_172 (fun _ => rfl) ?_
      refine px_top (y := zV z) rfl ?_
      refine px_istore_n1 dX12_sum_26 (by decide) rfl ?_
      refine px_aload_n dX12_sum_27 rfl rfl ?_
      obtain ⟨q1, q2, q3, q4⟩ := turn_g (tp := S 14) (c := (zV z, 0)) (zTerm_g (tp := S 14) hF) hz hn (Or.inr (Or.inr (or_sg hc).2))
      refine mx_callV0 dX12_sum_28 lX12_190 rfl (m_next G m h0 S t z hT hz) (by omega) (Nat.le_of_ble_eq_true rfl) (fun S28 Q28 => ?_)
      obtain rfl := Q28.symm
      refine px_aload_n dX12_sum_31 rfl rfl ?_
      refine mx_callV0 dX12_sum_32 lX12_216 rfl (hO (zN (S 14) t z) (zN_i hz) hn) (by omega) (Nat.le_of_ble_eq_true rfl) (fun S32 Q32 => ?_)
      obtain rfl := Q32.symm
      refine px_aload_n dX12_sum_35 rfl rfl ?_
      refine px_iload_n dX12_sum_36 rfl rfl ?_
      refine px_iconst (v := 0) dX12_sum_37 (by decide) ?_
      refine mx_callV2 dX12_sum_38 lX12_199 rfl (m_add G m h0 S (zTerm (S 14) t F (zN (S 14) t z)) _ _ (by have := q1.1.1; have := q1.1.2.1; have := q1.1.2.2.1; omega)) (by omega) (Nat.le_of_ble_eq_true rfl) (fun S38 Q38 => ?_)
      obtain rfl := Q38.symm
      refine px_goto (tgt := 4) dX12_sum_41 (by decide) ?_
      rw [show whl (kk + 1) (fun z => zSg z 43 || zSg z 45) (fun z => zAd ((zTerm (S 14) t F) (zN (S 14) t z)) (zV z, 0)) z = whl kk (fun z => zSg z 43 || zSg z 45) (fun z => zAd ((zTerm (S 14) t F) (zN (S 14) t z)) (zV z, 0)) ((fun z => zAd ((zTerm (S 14) t F) (zN (S 14) t z)) (zV z, 0)) z) from by rw [whl, if_pos hc]]
      exact px_lw (by simp [LW]) (ih _ q3.1 (q3.n hn) (by omega))
    · skip
      rw [bI_0] at H10
      refine px_aload_n dX12_sum_13 rfl rfl ?_
      refine px_bipush (v := 45) dX12_sum_14 (by decide) ?_
      refine mx_callI1 dX12_sum_16 lX12_213 rfl (m_sign G m h0 S t z 45 hz) (by omega) (Nat.le_of_ble_eq_true rfl) (fun x16 S16 Q16 => ?_)
      obtain ⟨rfl, e16⟩ := Q16
      obtain rfl := e16.symm
      refine px_if_eq (tgt := 44) dX12_sum_19 (by decide) (fun H19 => ?_) (fun H19 => ?_)
      · skip
        rw [bI_0] at H19
        have hc : ¬ (zSg z 43 || zSg z 45) = true := by simp [H10, H19]
        refine px_return dX12_sum_44 rfl ?_
        show _ = layz S (whl (kk + 1) (fun z => zSg z 43 || zSg z 45) (fun z => zAd ((zTerm (S 14) t F) (zN (S 14) t z)) (zV z, 0)) z)
        rw [whl, if_neg hc]
      · skip
        rw [bI_0] at H19
        have hc : (zSg z 43 || zSg z 45) = true := by simp [Decidable.not_not.mp H19]
        refine px_aload_n dX12_sum_22 rfl rfl ?_
        refine mx_getI (k := 27) dX12_sum_23 gX12_172 (fun _ => rfl) ?_
        refine px_top (y := zV z) rfl ?_
        refine px_istore_n1 dX12_sum_26 (by decide) rfl ?_
        refine px_aload_n dX12_sum_27 rfl rfl ?_
        obtain ⟨q1, q2, q3, q4⟩ := turn_g (tp := S 14) (c := (zV z, 0)) (zTerm_g (tp := S 14) hF) hz hn (Or.inr (Or.inr (or_sg hc).2))
        refine mx_callV0 dX12_sum_28 lX12_190 rfl (m_next G m h0 S t z hT hz) (by omega) (Nat.le_of_ble_eq_true rfl) (fun S28 Q28 => ?_)
        obtain rfl := Q28.symm
        refine px_aload_n dX12_sum_31 rfl rfl ?_
        refine mx_callV0 dX12_sum_32 lX12_216 rfl (hO (zN (S 14) t z) (zN_i hz) hn) (by omega) (Nat.le_of_ble_eq_true rfl) (fun S32 Q32 => ?_)
        obtain rfl := Q32.symm
        refine px_aload_n dX12_sum_35 rfl rfl ?_
        refine px_iload_n dX12_sum_36 rfl rfl ?_
        refine px_iconst (v := 0) dX12_sum_37 (by decide) ?_
        refine mx_callV2 dX12_sum_38 lX12_199 rfl (m_add G m h0 S (zTerm (S 14) t F (zN (S 14) t z)) _ _ (by have := q1.1.1; have := q1.1.2.1; have := q1.1.2.2.1; omega)) (by omega) (Nat.le_of_ble_eq_true rfl) (fun S38 Q38 => ?_)
        obtain rfl := Q38.symm
        refine px_goto (tgt := 4) dX12_sum_41 (by decide) ?_
        rw [show whl (kk + 1) (fun z => zSg z 43 || zSg z 45) (fun z => zAd ((zTerm (S 14) t F) (zN (S 14) t z)) (zV z, 0)) z = whl kk (fun z => zSg z 43 || zSg z 45) (fun z => zAd ((zTerm (S 14) t F) (zN (S 14) t z)) (zV z, 0)) ((fun z => zAd ((zTerm (S 14) t F) (zN (S 14) t z)) (zV z, 0)) z) from by rw [whl, if_pos hc]]
        exact px_lw (by simp [LW]) (ih _ q3.1 (q3.n hn) (by omega))
set_option maxHeartbeats 4000000 in
set_option maxRecDepth 100000 in
theorem m_sum (G : Gt) (m : Nat) (h0 : Ht) (S : MS) (t n d : Nat) (F : PZ → PZ) (hT : S 15 0 = nI t) (hd : 4 ≤ d) (hF : FOK t n F) (hO : MC G m h0 S t n d Y12_term (zTerm (S 14) t F)) : MC G m h0 S t n (d + 1) Y12_sum (zSum (S 14) t F) := by
  intro z hz hn
  show PC G (MPic G m h0) (d + 1) Y12_sum [.ref m] (layz S z) 0 0 (rv (fun S' => S' = layz S (zSum (S 14) t F z)))
  refine pc_of (ls := [some (.ref m), none]) (by decide +kernel) rfl (Nat.le_of_ble_eq_true rfl) ?_
  refine px_aload_n dX12_sum_0 rfl rfl ?_
  refine mx_callV0 dX12_sum_1 lX12_216 rfl (hO z hz hn) (by omega) (Nat.le_of_ble_eq_true rfl) (fun S1 Q1 => ?_)
  obtain rfl := Q1.symm
  exact px_lw (by simp [LW]) (lp_sum G m h0 S t n d F hT hd hF hO 161 _ ((zTerm_g (tp := S 14) hF) z hz hn).1 (((zTerm_g (tp := S 14) hF) z hz hn).n hn) (by omega))
set_option maxHeartbeats 4000000 in
set_option maxRecDepth 100000 in
theorem lp_all (G : Gt) (m : Nat) (h0 : Ht) (S : MS) (t n d : Nat) (F : PZ → PZ) (hT : S 15 0 = nI t) (hd : 4 ≤ d) (hF : FOK t n F) (hO : MC G m h0 S t n d Y12_denied (F)) : ∀ (kk : Nat) (z : PZ), Zi t z → (zF z < 0 → 6 ≤ zO z + n) → 161 ≤ zA z + kk → PX G (MPic G m h0) (d + 1) Y12_all 4 [some (.ref m)] [] (layz S z) 0 0 (rv (fun S' => S' = layz S (whl kk (fun z => zKy z 14) (fun z => zAd ((F) (zN (S 14) t z)) (6, 0)) z))) := by
  intro kk
  induction kk with
  | zero => intro z hz hn hk; have := hz.1; have := hz.2.1; have := hz.2.2.1; omega
  | succ kk ih =>
    intro z hz hn hk
    refine px_aload_n dX12_all_4 rfl rfl ?_
    refine px_bipush (v := 14) dX12_all_5 (by decide) ?_
    refine mx_callI1 dX12_all_7 lX12_196 rfl (m_key G m h0 S t z 14 hz) (by omega) (Nat.le_of_ble_eq_true rfl) (fun x7 S7 Q7 => ?_)
    obtain ⟨rfl, e7⟩ := Q7
    obtain rfl := e7.symm
    refine px_if_eq (tgt := 31) dX12_all_10 (by decide) (fun H10 => ?_) (fun H10 => ?_)
    · skip
      rw [bI_0] at H10
      have hc := H10
      refine px_return dX12_all_31 rfl ?_
      show _ = layz S (whl (kk + 1) (fun z => zKy z 14) (fun z => zAd ((F) (zN (S 14) t z)) (6, 0)) z)
      rw [whl, if_neg hc]
    · skip
      rw [bI_0] at H10
      have hc := Decidable.not_not.mp H10
      refine px_aload_n dX12_all_13 rfl rfl ?_
      obtain ⟨q1, q2, q3, q4⟩ := turn_g (tp := S 14) (c := (6, 0)) hF hz hn (Or.inl (ky_y hc).2.1)
      refine mx_callV0 dX12_all_14 lX12_190 rfl (m_next G m h0 S t z hT hz) (by omega) (Nat.le_of_ble_eq_true rfl) (fun S14 Q14 => ?_)
      obtain rfl := Q14.symm
      refine px_aload_n dX12_all_17 rfl rfl ?_
      refine mx_callV0 dX12_all_18 lX12_203 rfl (hO (zN (S 14) t z) (zN_i hz) hn) (by omega) (Nat.le_of_ble_eq_true rfl) (fun S18 Q18 => ?_)
      obtain rfl := Q18.symm
      refine px_aload_n dX12_all_21 rfl rfl ?_
      refine px_bipush (v := 6) dX12_all_22 (by decide) ?_
      refine px_iconst (v := 0) dX12_all_24 (by decide) ?_
      refine mx_callV2 dX12_all_25 lX12_199 rfl (m_add G m h0 S (F (zN (S 14) t z)) _ _ (by have := q1.1.1; have := q1.1.2.1; have := q1.1.2.2.1; omega)) (by omega) (Nat.le_of_ble_eq_true rfl) (fun S25 Q25 => ?_)
      obtain rfl := Q25.symm
      refine px_goto (tgt := 4) dX12_all_28 (by decide) ?_
      rw [show whl (kk + 1) (fun z => zKy z 14) (fun z => zAd ((F) (zN (S 14) t z)) (6, 0)) z = whl kk (fun z => zKy z 14) (fun z => zAd ((F) (zN (S 14) t z)) (6, 0)) ((fun z => zAd ((F) (zN (S 14) t z)) (6, 0)) z) from by rw [whl, if_pos hc]]
      exact px_lw (by simp [LW]) (ih _ q3.1 (q3.n hn) (by omega))
set_option maxHeartbeats 4000000 in
set_option maxRecDepth 100000 in
theorem m_all (G : Gt) (m : Nat) (h0 : Ht) (S : MS) (t n d : Nat) (F : PZ → PZ) (hT : S 15 0 = nI t) (hd : 4 ≤ d) (hF : FOK t n F) (hO : MC G m h0 S t n d Y12_denied (F)) : MC G m h0 S t n (d + 1) Y12_all (zAll (S 14) t F) := by
  intro z hz hn
  show PC G (MPic G m h0) (d + 1) Y12_all [.ref m] (layz S z) 0 0 (rv (fun S' => S' = layz S (zAll (S 14) t F z)))
  refine pc_of (ls := [some (.ref m)]) (by decide +kernel) rfl (Nat.le_of_ble_eq_true rfl) ?_
  refine px_aload_n dX12_all_0 rfl rfl ?_
  refine mx_callV0 dX12_all_1 lX12_203 rfl (hO z hz hn) (by omega) (Nat.le_of_ble_eq_true rfl) (fun S1 Q1 => ?_)
  obtain rfl := Q1.symm
  exact px_lw (by simp [LW]) (lp_all G m h0 S t n d F hT hd hF hO 161 _ (hF z hz hn).1 ((hF z hz hn).n hn) (by omega))
set_option maxHeartbeats 4000000 in
set_option maxRecDepth 100000 in
theorem lp_either (G : Gt) (m : Nat) (h0 : Ht) (S : MS) (t n d : Nat) (F : PZ → PZ) (hT : S 15 0 = nI t) (hd : 4 ≤ d) (hF : FOK t n F) (hO : MC G m h0 S t n d Y12_all (zAll (S 14) t F)) : ∀ (kk : Nat) (z : PZ), Zi t z → (zF z < 0 → 6 ≤ zO z + n) → 161 ≤ zA z + kk → PX G (MPic G m h0) (d + 1) Y12_either 4 [some (.ref m)] [] (layz S z) 0 0 (rv (fun S' => S' = layz S (whl kk (fun z => zKy z 13) (fun z => zAd ((zAll (S 14) t F) (zN (S 14) t z)) (5, 0)) z))) := by
  intro kk
  induction kk with
  | zero => intro z hz hn hk; have := hz.1; have := hz.2.1; have := hz.2.2.1; omega
  | succ kk ih =>
    intro z hz hn hk
    refine px_aload_n dX12_either_4 rfl rfl ?_
    refine px_bipush (v := 13) dX12_either_5 (by decide) ?_
    refine mx_callI1 dX12_either_7 lX12_196 rfl (m_key G m h0 S t z 13 hz) (by omega) (Nat.le_of_ble_eq_true rfl) (fun x7 S7 Q7 => ?_)
    obtain ⟨rfl, e7⟩ := Q7
    obtain rfl := e7.symm
    refine px_if_eq (tgt := 30) dX12_either_10 (by decide) (fun H10 => ?_) (fun H10 => ?_)
    · skip
      rw [bI_0] at H10
      have hc := H10
      refine px_return dX12_either_30 rfl ?_
      show _ = layz S (whl (kk + 1) (fun z => zKy z 13) (fun z => zAd ((zAll (S 14) t F) (zN (S 14) t z)) (5, 0)) z)
      rw [whl, if_neg hc]
    · skip
      rw [bI_0] at H10
      have hc := Decidable.not_not.mp H10
      refine px_aload_n dX12_either_13 rfl rfl ?_
      obtain ⟨q1, q2, q3, q4⟩ := turn_g (tp := S 14) (c := (5, 0)) (zAll_g (tp := S 14) hF) hz hn (Or.inl (ky_y hc).2.1)
      refine mx_callV0 dX12_either_14 lX12_190 rfl (m_next G m h0 S t z hT hz) (by omega) (Nat.le_of_ble_eq_true rfl) (fun S14 Q14 => ?_)
      obtain rfl := Q14.symm
      refine px_aload_n dX12_either_17 rfl rfl ?_
      refine mx_callV0 dX12_either_18 lX12_193 rfl (hO (zN (S 14) t z) (zN_i hz) hn) (by omega) (Nat.le_of_ble_eq_true rfl) (fun S18 Q18 => ?_)
      obtain rfl := Q18.symm
      refine px_aload_n dX12_either_21 rfl rfl ?_
      refine px_iconst (v := 5) dX12_either_22 (by decide) ?_
      refine px_iconst (v := 0) dX12_either_23 (by decide) ?_
      refine mx_callV2 dX12_either_24 lX12_199 rfl (m_add G m h0 S (zAll (S 14) t F (zN (S 14) t z)) _ _ (by have := q1.1.1; have := q1.1.2.1; have := q1.1.2.2.1; omega)) (by omega) (Nat.le_of_ble_eq_true rfl) (fun S24 Q24 => ?_)
      obtain rfl := Q24.symm
      refine px_goto (tgt := 4) dX12_either_27 (by decide) ?_
      rw [show whl (kk + 1) (fun z => zKy z 13) (fun z => zAd ((zAll (S 14) t F) (zN (S 14) t z)) (5, 0)) z = whl kk (fun z => zKy z 13) (fun z => zAd ((zAll (S 14) t F) (zN (S 14) t z)) (5, 0)) ((fun z => zAd ((zAll (S 14) t F) (zN (S 14) t z)) (5, 0)) z) from by rw [whl, if_pos hc]]
      exact px_lw (by simp [LW]) (ih _ q3.1 (q3.n hn) (by omega))
set_option maxHeartbeats 4000000 in
set_option maxRecDepth 100000 in
theorem m_either (G : Gt) (m : Nat) (h0 : Ht) (S : MS) (t n d : Nat) (F : PZ → PZ) (hT : S 15 0 = nI t) (hd : 4 ≤ d) (hF : FOK t n F) (hO : MC G m h0 S t n d Y12_all (zAll (S 14) t F)) : MC G m h0 S t n (d + 1) Y12_either (zEi (S 14) t F) := by
  intro z hz hn
  show PC G (MPic G m h0) (d + 1) Y12_either [.ref m] (layz S z) 0 0 (rv (fun S' => S' = layz S (zEi (S 14) t F z)))
  refine pc_of (ls := [some (.ref m)]) (by decide +kernel) rfl (Nat.le_of_ble_eq_true rfl) ?_
  refine px_aload_n dX12_either_0 rfl rfl ?_
  refine mx_callV0 dX12_either_1 lX12_193 rfl (hO z hz hn) (by omega) (Nat.le_of_ble_eq_true rfl) (fun S1 Q1 => ?_)
  obtain rfl := Q1.symm
  exact px_lw (by simp [LW]) (lp_either G m h0 S t n d F hT hd hF hO 161 _ ((zAll_g (tp := S 14) hF) z hz hn).1 (((zAll_g (tp := S 14) hF) z hz hn).n hn) (by omega))
theorem m_nx (G : Gt) (m : Nat) (h0 : Ht) (S : MS) (t : Nat) (z : PZ) (hT : S 15 0 = nI t) (ht : t ≤ 160) (hb : zB z ≤ t) : PC G (MPic G m h0) 3 Y12_next [.ref m] (layz S z) 0 0 (rv (fun S' => S' = layz S (zN (S 14) t z))) := c_X12_next G m h0 S _ _ _ _ _ t _ _ hT ht hb
theorem zD_up {S : MS} {w : PZ} (h : 1 ≤ zO w) : up2 (layz S w) 23 0 (layz S w 23 0 - 1) = layz S (zD w) := by
  rw [show layz S w 23 0 = nI (zO w) from rfl, nIs h]
  exact lay_o
theorem zSq {z : PZ} (h : zS z ≤ 5) {k : Nat} (hk : k ≤ 5) : (nI (zS z) = nI k) = (zS z = k) := propext (nI_eq (by omega) (by omega))
theorem nB {p : Prop} [Decidable p] (h : bI (decide ¬ p) = 0) : p := by
  rw [bI_0, decide_eq_true_iff] at h
  exact Decidable.not_not.mp h
theorem nB' {p : Prop} [Decidable p] (h : ¬ bI (decide ¬ p) = 0) : ¬ p := by
  rw [bI_0, decide_eq_true_iff] at h
  exact Decidable.not_not.mp h
set_option maxHeartbeats 4000000 in
set_option maxRecDepth 100000 in
theorem m_one (G : Gt) (m : Nat) (h0 : Ht) (S : MS) (t n d d1 d2 : Nat) (o1 ei : PZ → PZ) (hT : S 15 0 = nI t) (hd : 5 ≤ d) (hd1 : d1 ≤ d) (hd2 : d2 ≤ d) (h1 : FOK t n o1) (h2 : FOK t n ei) (hR1 : MR G m h0 S t n d1 Y12_one o1) (hR2 : MR G m h0 S t n d2 Y12_either ei) : MC G m h0 S t (n + 1) (d + 1) Y12_one (zOne1 (S 14) t o1 ei) := by
  intro z hz hn
  show PC G (MPic G m h0) (d + 1) Y12_one [.ref m] (layz S z) 0 0 (rv (fun S' => S' = layz S (zOne1 (S 14) t o1 ei z)))
  refine pc_of (ls := [some (.ref m)]) (by decide +kernel) rfl (Nat.le_of_ble_eq_true rfl) ?_
  refine px_aload_n dX12_one_0 rfl rfl ?_
  refine mx_getI (k := 22) dX12_one_1 gX12_178 (fun _ => rfl) ?_
  refine px_if_lt (tgt := 8) dX12_one_4 (by decide) (fun H4 => ?_) (fun H4 => ?_)
  · skip
    rw [show layz S z 22 0 = zF z from rfl] at H4
    have hf := H4
    refine px_aload_n dX12_one_8 rfl rfl ?_
    refine mx_getI (k := 26) dX12_one_9 gX12_162 (fun _ => rfl) ?_
    refine px_iconst (v := 2) dX12_one_12 (by decide) ?_
    refine px_icmp_ne (tgt := 32) dX12_one_13 (by decide) (fun H13 => ?_) (fun H13 => ?_)
    · skip
      rw [show layz S z 26 0 = nI (zS z) from rfl, show (2 : Int32) = nI 2 from rfl, zSq hz.2.2.2.2.2.1 (by omega)] at H13
      refine px_aload_n dX12_one_32 rfl rfl ?_
      refine mx_getI (k := 26) dX12_one_33 gX12_162 (fun _ => rfl) ?_
      refine px_iconst (v := 1) dX12_one_36 (by decide) ?_
      refine px_icmp_ne (tgt := 65) dX12_one_37 (by decide) (fun H37 => ?_) (fun H37 => ?_)
      · skip
        rw [show layz S z 26 0 = nI (zS z) from rfl, show (1 : Int32) = nI 1 from rfl, zSq hz.2.2.2.2.2.1 (by omega)] at H37
        refine px_aload_n dX12_one_65 rfl rfl ?_
        refine px_bipush (v := 45) dX12_one_66 (by decide) ?_
        refine mx_callI1 dX12_one_68 lX12_213 rfl (m_sign G m h0 S t z 45 hz) (by omega) (Nat.le_of_ble_eq_true rfl) (fun x68 S68 Q68 => ?_)
        obtain ⟨rfl, e68⟩ := Q68
        obtain rfl := e68.symm
        refine px_if_eq (tgt := 105) dX12_one_71 (by decide) (fun H71 => ?_) (fun H71 => ?_)
        · skip
          rw [bI_0] at H71
          refine px_aload_n dX12_one_105 rfl rfl ?_
          refine px_bipush (v := 40) dX12_one_106 (by decide) ?_
          refine mx_callI1 dX12_one_108 lX12_213 rfl (m_sign G m h0 S t z 40 hz) (by omega) (Nat.le_of_ble_eq_true rfl) (fun x108 S108 Q108 => ?_)
          obtain ⟨rfl, e108⟩ := Q108
          obtain rfl := e108.symm
          refine px_if_eq (tgt := 157) dX12_one_111 (by decide) (fun H111 => ?_) (fun H111 => ?_)
          · skip
            rw [bI_0] at H111
            refine px_aload_n dX12_one_157 rfl rfl ?_
            refine mx_callV0 dX12_one_158 lX12_187 rfl (m_wrong G m h0 S z) (by omega) (Nat.le_of_ble_eq_true rfl) (fun S158 Q158 => ?_)
            obtain rfl := Q158.symm
            refine px_return dX12_one_161 rfl ?_
            show layz S _ = layz S (zOne1 (S 14) t o1 ei z)
            clear hR1 hR2 h1 h2 hn hT hz
            simp [zOne1, *]
          · skip
            rw [bI_0] at H111
            have H111 := Decidable.not_not.mp H111
            refine px_aload_n dX12_one_114 rfl rfl ?_
            refine mx_callI0 dX12_one_115 lX12_206 rfl (m_opens G m h0 S t z hT hz hf) (by omega) (Nat.le_of_ble_eq_true rfl) (fun x115 S115 Q115 => ?_)
            obtain ⟨rfl, e115⟩ := Q115
            obtain rfl := e115.symm
            refine px_if_ne (tgt := 122) dX12_one_118 (by decide) (fun H118 => ?_) (fun H118 => ?_)
            · skip
              have ho := nB' H118
              refine px_S (S' := layz S (zN (S 14) t (zI z))) (by rw [zOp, if_neg ho]) ?_
              obtain ⟨k1, k2, k3, k4, k5, k6, k7, k8, k9⟩ := opn_g (tp := S 14) h2 hz hf (hn hf) (Or.inr (Or.inr (sg_y H111).2.1)) ho
              refine px_aload_n dX12_one_122 rfl rfl ?_
              refine mx_callV0 dX12_one_123 lX12_222 rfl (hR2 _ k1 hf (k2 hf)) (by omega) (Nat.le_of_ble_eq_true rfl) (fun S123 Q123 => ?_)
              obtain rfl := Q123.symm
              refine px_aload_n dX12_one_126 rfl rfl ?_
              refine px_bipush (v := 41) dX12_one_127 (by decide) ?_
              refine mx_callI1 dX12_one_129 lX12_213 rfl (m_sign G m h0 S t (ei (zN (S 14) t (zI z))) 41 k3) (by omega) (Nat.le_of_ble_eq_true rfl) (fun x129 S129 Q129 => ?_)
              obtain ⟨rfl, e129⟩ := Q129
              obtain rfl := e129.symm
              refine px_if_ne (tgt := 140) dX12_one_132 (by decide) (fun H132 => ?_) (fun H132 => ?_)
              · skip
                rw [bI_0] at H132
                have H132 := Decidable.not_not.mp H132
                refine px_aload_n dX12_one_140 rfl rfl ?_
                refine px_dup dX12_one_141 rfl ?_
                refine mx_getI (k := 23) dX12_one_142 gX12_184 (fun _ => rfl) ?_
                refine px_iconst (v := 1) dX12_one_145 (by decide) ?_
                refine px_isub dX12_one_146 ?_
                refine mx_putI (k := 23) dX12_one_147 gX12_184 (by decide) rfl rfl ?_
                refine px_S (S' := layz S (zD (ei (zN (S 14) t (zI z))))) (zD_up k4) ?_
                refine px_aload_n dX12_one_150 rfl rfl ?_
                refine mx_callV0 dX12_one_151 lX12_190 rfl (m_nx G m h0 S t (zD (ei (zN (S 14) t (zI z)))) hT hz.2.2.1 k3.2.1) (by omega) (Nat.le_of_ble_eq_true rfl) (fun S151 Q151 => ?_)
                obtain rfl := Q151.symm
                refine px_goto (tgt := 161) dX12_one_154 (by decide) ?_
                refine px_return dX12_one_161 rfl ?_
                show layz S _ = layz S (zOne1 (S 14) t o1 ei z)
                clear hR1 hR2 h1 h2 hn hT hz
                simp [zOne1, *]
              · skip
                rw [bI_0] at H132
                refine px_aload_n dX12_one_135 rfl rfl ?_
                refine mx_callV0 dX12_one_136 lX12_187 rfl (m_wrong G m h0 S (ei (zN (S 14) t (zI z)))) (by omega) (Nat.le_of_ble_eq_true rfl) (fun S136 Q136 => ?_)
                obtain rfl := Q136.symm
                refine px_return dX12_one_139 rfl ?_
                show layz S _ = layz S (zOne1 (S 14) t o1 ei z)
                clear hR1 hR2 h1 h2 hn hT hz
                simp [zOne1, *]
            · skip
              have ho := nB H118
              refine px_S (S' := layz S (zW z)) (by rw [zOp, if_pos ho]) ?_
              refine px_return dX12_one_121 rfl ?_
              show layz S _ = layz S (zOne1 (S 14) t o1 ei z)
              clear hR1 hR2 h1 h2 hn hT hz
              simp [zOne1, *]
        · skip
          rw [bI_0] at H71
          have H71 := Decidable.not_not.mp H71
          refine px_aload_n dX12_one_74 rfl rfl ?_
          refine mx_callI0 dX12_one_75 lX12_206 rfl (m_opens G m h0 S t z hT hz hf) (by omega) (Nat.le_of_ble_eq_true rfl) (fun x75 S75 Q75 => ?_)
          obtain ⟨rfl, e75⟩ := Q75
          obtain rfl := e75.symm
          refine px_if_ne (tgt := 82) dX12_one_78 (by decide) (fun H78 => ?_) (fun H78 => ?_)
          · skip
            have ho := nB' H78
            refine px_S (S' := layz S (zN (S 14) t (zI z))) (by rw [zOp, if_neg ho]) ?_
            obtain ⟨k1, k2, k3, k4, k5, k6, k7, k8, k9⟩ := opn_g (tp := S 14) h1 hz hf (hn hf) (Or.inr (Or.inr (sg_y H71).2.1)) ho
            refine px_aload_n dX12_one_82 rfl rfl ?_
            refine mx_callV0 dX12_one_83 lX12_219 rfl (hR1 _ k1 hf (k2 hf)) (by omega) (Nat.le_of_ble_eq_true rfl) (fun S83 Q83 => ?_)
            obtain rfl := Q83.symm
            refine px_aload_n dX12_one_86 rfl rfl ?_
            refine px_dup dX12_one_87 rfl ?_
            refine mx_getI (k := 23) dX12_one_88 gX12_184 (fun _ => rfl) ?_
            refine px_iconst (v := 1) dX12_one_91 (by decide) ?_
            refine px_isub dX12_one_92 ?_
            refine mx_putI (k := 23) dX12_one_93 gX12_184 (by decide) rfl rfl ?_
            refine px_S (S' := layz S (zD (o1 (zN (S 14) t (zI z))))) (zD_up k4) ?_
            refine px_aload_n dX12_one_96 rfl rfl ?_
            refine px_iconst (v := 4) dX12_one_97 (by decide) ?_
            refine px_iconst (v := 0) dX12_one_98 (by decide) ?_
            refine mx_callV2 dX12_one_99 lX12_199 rfl (m_add G m h0 S (zD (o1 (zN (S 14) t (zI z)))) 4 0 (show (zL (o1 (zN (S 14) t (zI z)))).length < 170 from by have := k3.1; have := k3.2.1; have := k3.2.2.1; omega)) (by omega) (Nat.le_of_ble_eq_true rfl) (fun S99 Q99 => ?_)
            obtain rfl := Q99.symm
            refine px_goto (tgt := 161) dX12_one_102 (by decide) ?_
            refine px_return dX12_one_161 rfl ?_
            show layz S _ = layz S (zOne1 (S 14) t o1 ei z)
            clear hR1 hR2 h1 h2 hn hT hz
            simp [zOne1, *]
          · skip
            have ho := nB H78
            refine px_S (S' := layz S (zW z)) (by rw [zOp, if_pos ho]) ?_
            refine px_return dX12_one_81 rfl ?_
            show layz S _ = layz S (zOne1 (S 14) t o1 ei z)
            clear hR1 hR2 h1 h2 hn hT hz
            simp [zOne1, *]
      · skip
        rw [show layz S z 26 0 = nI (zS z) from rfl, show (1 : Int32) = nI 1 from rfl, zSq hz.2.2.2.2.2.1 (by omega)] at H37
        refine px_aload_n dX12_one_40 rfl rfl ?_
        refine mx_getI (k := 27) dX12_one_41 gX12_172 (fun _ => rfl) ?_
        refine px_bipush (v := 6) dX12_one_44 (by decide) ?_
        refine px_icmp_ge (tgt := 65) dX12_one_46 (by decide) (fun H46 => ?_) (fun H46 => ?_)
        · skip
          rw [show layz S z 27 0 = zV z from rfl] at H46
          refine px_aload_n dX12_one_65 rfl rfl ?_
          refine px_bipush (v := 45) dX12_one_66 (by decide) ?_
          refine mx_callI1 dX12_one_68 lX12_213 rfl (m_sign G m h0 S t z 45 hz) (by omega) (Nat.le_of_ble_eq_true rfl) (fun x68 S68 Q68 => ?_)
          obtain ⟨rfl, e68⟩ := Q68
          obtain rfl := e68.symm
          refine px_if_eq (tgt := 105) dX12_one_71 (by decide) (fun H71 => ?_) (fun H71 => ?_)
          · skip
            rw [bI_0] at H71
            refine px_aload_n dX12_one_105 rfl rfl ?_
            refine px_bipush (v := 40) dX12_one_106 (by decide) ?_
            refine mx_callI1 dX12_one_108 lX12_213 rfl (m_sign G m h0 S t z 40 hz) (by omega) (Nat.le_of_ble_eq_true rfl) (fun x108 S108 Q108 => ?_)
            obtain ⟨rfl, e108⟩ := Q108
            obtain rfl := e108.symm
            refine px_if_eq (tgt := 157) dX12_one_111 (by decide) (fun H111 => ?_) (fun H111 => ?_)
            · skip
              rw [bI_0] at H111
              refine px_aload_n dX12_one_157 rfl rfl ?_
              refine mx_callV0 dX12_one_158 lX12_187 rfl (m_wrong G m h0 S z) (by omega) (Nat.le_of_ble_eq_true rfl) (fun S158 Q158 => ?_)
              obtain rfl := Q158.symm
              refine px_return dX12_one_161 rfl ?_
              show layz S _ = layz S (zOne1 (S 14) t o1 ei z)
              clear hR1 hR2 h1 h2 hn hT hz
              simp [zOne1, *]
            · skip
              rw [bI_0] at H111
              have H111 := Decidable.not_not.mp H111
              refine px_aload_n dX12_one_114 rfl rfl ?_
              refine mx_callI0 dX12_one_115 lX12_206 rfl (m_opens G m h0 S t z hT hz hf) (by omega) (Nat.le_of_ble_eq_true rfl) (fun x115 S115 Q115 => ?_)
              obtain ⟨rfl, e115⟩ := Q115
              obtain rfl := e115.symm
              refine px_if_ne (tgt := 122) dX12_one_118 (by decide) (fun H118 => ?_) (fun H118 => ?_)
              · skip
                have ho := nB' H118
                refine px_S (S' := layz S (zN (S 14) t (zI z))) (by rw [zOp, if_neg ho]) ?_
                obtain ⟨k1, k2, k3, k4, k5, k6, k7, k8, k9⟩ := opn_g (tp := S 14) h2 hz hf (hn hf) (Or.inr (Or.inr (sg_y H111).2.1)) ho
                refine px_aload_n dX12_one_122 rfl rfl ?_
                refine mx_callV0 dX12_one_123 lX12_222 rfl (hR2 _ k1 hf (k2 hf)) (by omega) (Nat.le_of_ble_eq_true rfl) (fun S123 Q123 => ?_)
                obtain rfl := Q123.symm
                refine px_aload_n dX12_one_126 rfl rfl ?_
                refine px_bipush (v := 41) dX12_one_127 (by decide) ?_
                refine mx_callI1 dX12_one_129 lX12_213 rfl (m_sign G m h0 S t (ei (zN (S 14) t (zI z))) 41 k3) (by omega) (Nat.le_of_ble_eq_true rfl) (fun x129 S129 Q129 => ?_)
                obtain ⟨rfl, e129⟩ := Q129
                obtain rfl := e129.symm
                refine px_if_ne (tgt := 140) dX12_one_132 (by decide) (fun H132 => ?_) (fun H132 => ?_)
                · skip
                  rw [bI_0] at H132
                  have H132 := Decidable.not_not.mp H132
                  refine px_aload_n dX12_one_140 rfl rfl ?_
                  refine px_dup dX12_one_141 rfl ?_
                  refine mx_getI (k := 23) dX12_one_142 gX12_184 (fun _ => rfl) ?_
                  refine px_iconst (v := 1) dX12_one_145 (by decide) ?_
                  refine px_isub dX12_one_146 ?_
                  refine mx_putI (k := 23) dX12_one_147 gX12_184 (by decide) rfl rfl ?_
                  refine px_S (S' := layz S (zD (ei (zN (S 14) t (zI z))))) (zD_up k4) ?_
                  refine px_aload_n dX12_one_150 rfl rfl ?_
                  refine mx_callV0 dX12_one_151 lX12_190 rfl (m_nx G m h0 S t (zD (ei (zN (S 14) t (zI z)))) hT hz.2.2.1 k3.2.1) (by omega) (Nat.le_of_ble_eq_true rfl) (fun S151 Q151 => ?_)
                  obtain rfl := Q151.symm
                  refine px_goto (tgt := 161) dX12_one_154 (by decide) ?_
                  refine px_return dX12_one_161 rfl ?_
                  show layz S _ = layz S (zOne1 (S 14) t o1 ei z)
                  clear hR1 hR2 h1 h2 hn hT hz
                  simp [zOne1, *]
                · skip
                  rw [bI_0] at H132
                  refine px_aload_n dX12_one_135 rfl rfl ?_
                  refine mx_callV0 dX12_one_136 lX12_187 rfl (m_wrong G m h0 S (ei (zN (S 14) t (zI z)))) (by omega) (Nat.le_of_ble_eq_true rfl) (fun S136 Q136 => ?_)
                  obtain rfl := Q136.symm
                  refine px_return dX12_one_139 rfl ?_
                  show layz S _ = layz S (zOne1 (S 14) t o1 ei z)
                  clear hR1 hR2 h1 h2 hn hT hz
                  simp [zOne1, *]
              · skip
                have ho := nB H118
                refine px_S (S' := layz S (zW z)) (by rw [zOp, if_pos ho]) ?_
                refine px_return dX12_one_121 rfl ?_
                show layz S _ = layz S (zOne1 (S 14) t o1 ei z)
                clear hR1 hR2 h1 h2 hn hT hz
                simp [zOne1, *]
          · skip
            rw [bI_0] at H71
            have H71 := Decidable.not_not.mp H71
            refine px_aload_n dX12_one_74 rfl rfl ?_
            refine mx_callI0 dX12_one_75 lX12_206 rfl (m_opens G m h0 S t z hT hz hf) (by omega) (Nat.le_of_ble_eq_true rfl) (fun x75 S75 Q75 => ?_)
            obtain ⟨rfl, e75⟩ := Q75
            obtain rfl := e75.symm
            refine px_if_ne (tgt := 82) dX12_one_78 (by decide) (fun H78 => ?_) (fun H78 => ?_)
            · skip
              have ho := nB' H78
              refine px_S (S' := layz S (zN (S 14) t (zI z))) (by rw [zOp, if_neg ho]) ?_
              obtain ⟨k1, k2, k3, k4, k5, k6, k7, k8, k9⟩ := opn_g (tp := S 14) h1 hz hf (hn hf) (Or.inr (Or.inr (sg_y H71).2.1)) ho
              refine px_aload_n dX12_one_82 rfl rfl ?_
              refine mx_callV0 dX12_one_83 lX12_219 rfl (hR1 _ k1 hf (k2 hf)) (by omega) (Nat.le_of_ble_eq_true rfl) (fun S83 Q83 => ?_)
              obtain rfl := Q83.symm
              refine px_aload_n dX12_one_86 rfl rfl ?_
              refine px_dup dX12_one_87 rfl ?_
              refine mx_getI (k := 23) dX12_one_88 gX12_184 (fun _ => rfl) ?_
              refine px_iconst (v := 1) dX12_one_91 (by decide) ?_
              refine px_isub dX12_one_92 ?_
              refine mx_putI (k := 23) dX12_one_93 gX12_184 (by decide) rfl rfl ?_
              refine px_S (S' := layz S (zD (o1 (zN (S 14) t (zI z))))) (zD_up k4) ?_
              refine px_aload_n dX12_one_96 rfl rfl ?_
              refine px_iconst (v := 4) dX12_one_97 (by decide) ?_
              refine px_iconst (v := 0) dX12_one_98 (by decide) ?_
              refine mx_callV2 dX12_one_99 lX12_199 rfl (m_add G m h0 S (zD (o1 (zN (S 14) t (zI z)))) 4 0 (show (zL (o1 (zN (S 14) t (zI z)))).length < 170 from by have := k3.1; have := k3.2.1; have := k3.2.2.1; omega)) (by omega) (Nat.le_of_ble_eq_true rfl) (fun S99 Q99 => ?_)
              obtain rfl := Q99.symm
              refine px_goto (tgt := 161) dX12_one_102 (by decide) ?_
              refine px_return dX12_one_161 rfl ?_
              show layz S _ = layz S (zOne1 (S 14) t o1 ei z)
              clear hR1 hR2 h1 h2 hn hT hz
              simp [zOne1, *]
            · skip
              have ho := nB H78
              refine px_S (S' := layz S (zW z)) (by rw [zOp, if_pos ho]) ?_
              refine px_return dX12_one_81 rfl ?_
              show layz S _ = layz S (zOne1 (S 14) t o1 ei z)
              clear hR1 hR2 h1 h2 hn hT hz
              simp [zOne1, *]
        · skip
          rw [show layz S z 27 0 = zV z from rfl] at H46
          refine px_aload_n dX12_one_49 rfl rfl ?_
          refine px_iconst (v := 2) dX12_one_50 (by decide) ?_
          refine px_aload_n dX12_one_51 rfl rfl ?_
          refine mx_getI (k := 27) dX12_one_52 gX12_172 (fun _ => rfl) ?_
          refine px_top (y := zV z) rfl ?_
          refine mx_callV2 dX12_one_55 lX12_199 rfl (m_add G m h0 S z 2 (zV z) (by have := hz.1; have := hz.2.1; have := hz.2.2.1; have := hz.2.2.2.1; omega)) (by omega) (Nat.le_of_ble_eq_true rfl) (fun S55 Q55 => ?_)
          obtain rfl := Q55.symm
          refine px_aload_n dX12_one_58 rfl rfl ?_
          refine mx_callV0 dX12_one_59 lX12_190 rfl (m_nx G m h0 S t (zAd z (2, zV z)) hT hz.2.2.1 hz.2.1) (by omega) (Nat.le_of_ble_eq_true rfl) (fun S59 Q59 => ?_)
          obtain rfl := Q59.symm
          refine px_goto (tgt := 161) dX12_one_62 (by decide) ?_
          refine px_return dX12_one_161 rfl ?_
          show layz S _ = layz S (zOne1 (S 14) t o1 ei z)
          clear hR1 hR2 h1 h2 hn hT hz
          simp [zOne1, *]
    · skip
      rw [show layz S z 26 0 = nI (zS z) from rfl, show (2 : Int32) = nI 2 from rfl, zSq hz.2.2.2.2.2.1 (by omega)] at H13
      refine px_aload_n dX12_one_16 rfl rfl ?_
      refine px_iconst (v := 1) dX12_one_17 (by decide) ?_
      refine px_aload_n dX12_one_18 rfl rfl ?_
      refine mx_getI (k := 27) dX12_one_19 gX12_172 (fun _ => rfl) ?_
      refine px_top (y := zV z) rfl ?_
      refine mx_callV2 dX12_one_22 lX12_199 rfl (m_add G m h0 S z 1 (zV z) (by have := hz.1; have := hz.2.1; have := hz.2.2.1; have := hz.2.2.2.1; omega)) (by omega) (Nat.le_of_ble_eq_true rfl) (fun S22 Q22 => ?_)
      obtain rfl := Q22.symm
      refine px_aload_n dX12_one_25 rfl rfl ?_
      refine mx_callV0 dX12_one_26 lX12_190 rfl (m_nx G m h0 S t (zAd z (1, zV z)) hT hz.2.2.1 hz.2.1) (by omega) (Nat.le_of_ble_eq_true rfl) (fun S26 Q26 => ?_)
      obtain rfl := Q26.symm
      refine px_goto (tgt := 161) dX12_one_29 (by decide) ?_
      refine px_return dX12_one_161 rfl ?_
      show layz S _ = layz S (zOne1 (S 14) t o1 ei z)
      clear hR1 hR2 h1 h2 hn hT hz
      simp [zOne1, *]
  · skip
    rw [show layz S z 22 0 = zF z from rfl] at H4
    refine px_return dX12_one_7 rfl ?_
    show layz S _ = layz S (zOne1 (S 14) t o1 ei z)
    clear hR1 hR2 h1 h2 hn hT hz
    simp [zOne1, *]
set_option maxHeartbeats 4000000 in
set_option maxRecDepth 100000 in
theorem m_denied (G : Gt) (m : Nat) (h0 : Ht) (S : MS) (t n d d1 : Nat) (dn sm : PZ → PZ) (hT : S 15 0 = nI t) (hd : 5 ≤ d) (hd1 : d1 ≤ d) (h1 : FOK t n dn) (h2 : FOK t (n + 1) sm) (hR1 : MR G m h0 S t n d1 Y12_denied dn) (hS : MC G m h0 S t (n + 1) d Y12_sum sm) : MC G m h0 S t (n + 1) (d + 1) Y12_denied (zDen1 (S 14) t dn sm) := by
  intro z hz hn
  show PC G (MPic G m h0) (d + 1) Y12_denied [.ref m] (layz S z) 0 0 (rv (fun S' => S' = layz S (zDen1 (S 14) t dn sm z)))
  refine pc_of (ls := [some (.ref m), none]) (by decide +kernel) rfl (Nat.le_of_ble_eq_true rfl) ?_
  refine px_aload_n dX12_denied_0 rfl rfl ?_
  refine px_bipush (v := 15) dX12_denied_1 (by decide) ?_
  refine mx_callI1 dX12_denied_3 lX12_196 rfl (m_key G m h0 S t z 15 hz) (by omega) (Nat.le_of_ble_eq_true rfl) (fun x3 S3 Q3 => ?_)
  obtain ⟨rfl, e3⟩ := Q3
  obtain rfl := e3.symm
  refine px_if_eq (tgt := 38) dX12_denied_6 (by decide) (fun H6 => ?_) (fun H6 => ?_)
  · skip
    rw [bI_0] at H6
    have hg := h2 z hz hn
    refine px_aload_n dX12_denied_38 rfl rfl ?_
    refine mx_callV0 dX12_denied_39 lX12_210 rfl (hS z hz hn) (by omega) (Nat.le_of_ble_eq_true rfl) (fun S39 Q39 => ?_)
    obtain rfl := Q39.symm
    refine px_aload_n dX12_denied_42 rfl rfl ?_
    refine px_bipush (v := 60) dX12_denied_43 (by decide) ?_
    refine mx_callI1 dX12_denied_45 lX12_213 rfl (m_sign G m h0 S t (sm z) 60 hg.1) (by omega) (Nat.le_of_ble_eq_true rfl) (fun x45 S45 Q45 => ?_)
    obtain ⟨rfl, e45⟩ := Q45
    obtain rfl := e45.symm
    refine px_if_ne (tgt := 61) dX12_denied_48 (by decide) (fun H48 => ?_) (fun H48 => ?_)
    · skip
      rw [bI_0] at H48
      have H48 := Decidable.not_not.mp H48
      have hc : zSg (sm z) 60 = true ∨ zSg (sm z) 61 = true := Or.inl H48
      have hs := (sg_y H48).2.1
      refine px_aload_n dX12_denied_61 rfl rfl ?_
      refine mx_getI (k := 27) dX12_denied_62 gX12_172 (fun _ => rfl) ?_
      refine px_top (y := zV (sm z)) rfl ?_
      refine px_istore_n1 dX12_denied_65 (by decide) rfl ?_
      refine px_aload_n dX12_denied_66 rfl rfl ?_
      obtain ⟨q1, q2, q3, q4⟩ := turn_g (tp := S 14) (c := (zV (sm z), 0)) h2 hg.1 (hg.n hn) (Or.inr (Or.inr hs))
      refine mx_callV0 dX12_denied_67 lX12_190 rfl (m_next G m h0 S t (sm z) hT hg.1) (by omega) (Nat.le_of_ble_eq_true rfl) (fun S67 Q67 => ?_)
      obtain rfl := Q67.symm
      refine px_aload_n dX12_denied_70 rfl rfl ?_
      refine mx_callV0 dX12_denied_71 lX12_210 rfl (hS (zN (S 14) t (sm z)) (zN_i hg.1) (hg.n hn)) (by omega) (Nat.le_of_ble_eq_true rfl) (fun S71 Q71 => ?_)
      obtain rfl := Q71.symm
      refine px_aload_n dX12_denied_74 rfl rfl ?_
      refine px_iload_n dX12_denied_75 rfl rfl ?_
      refine px_iconst (v := 0) dX12_denied_76 (by decide) ?_
      refine mx_callV2 dX12_denied_77 lX12_199 rfl (m_add G m h0 S (sm (zN (S 14) t (sm z))) _ _ (by have := q1.1.1; have := q1.1.2.1; have := q1.1.2.2.1; omega)) (by omega) (Nat.le_of_ble_eq_true rfl) (fun S77 Q77 => ?_)
      obtain rfl := Q77.symm
      refine px_return dX12_denied_80 rfl ?_
      show layz S _ = layz S (zDen1 (S 14) t dn sm z)
      clear hR1 hS h1 h2 hn hT hz
      simp [zDen1, *]
    · skip
      rw [bI_0] at H48
      refine px_aload_n dX12_denied_51 rfl rfl ?_
      refine px_bipush (v := 61) dX12_denied_52 (by decide) ?_
      refine mx_callI1 dX12_denied_54 lX12_213 rfl (m_sign G m h0 S t (sm z) 61 hg.1) (by omega) (Nat.le_of_ble_eq_true rfl) (fun x54 S54 Q54 => ?_)
      obtain ⟨rfl, e54⟩ := Q54
      obtain rfl := e54.symm
      refine px_if_ne (tgt := 61) dX12_denied_57 (by decide) (fun H57 => ?_) (fun H57 => ?_)
      · skip
        rw [bI_0] at H57
        have H57 := Decidable.not_not.mp H57
        have hc : zSg (sm z) 60 = true ∨ zSg (sm z) 61 = true := Or.inr H57
        have hs := (sg_y H57).2.1
        refine px_aload_n dX12_denied_61 rfl rfl ?_
        refine mx_getI (k := 27) dX12_denied_62 gX12_172 (fun _ => rfl) ?_
        refine px_top (y := zV (sm z)) rfl ?_
        refine px_istore_n1 dX12_denied_65 (by decide) rfl ?_
        refine px_aload_n dX12_denied_66 rfl rfl ?_
        obtain ⟨q1, q2, q3, q4⟩ := turn_g (tp := S 14) (c := (zV (sm z), 0)) h2 hg.1 (hg.n hn) (Or.inr (Or.inr hs))
        refine mx_callV0 dX12_denied_67 lX12_190 rfl (m_next G m h0 S t (sm z) hT hg.1) (by omega) (Nat.le_of_ble_eq_true rfl) (fun S67 Q67 => ?_)
        obtain rfl := Q67.symm
        refine px_aload_n dX12_denied_70 rfl rfl ?_
        refine mx_callV0 dX12_denied_71 lX12_210 rfl (hS (zN (S 14) t (sm z)) (zN_i hg.1) (hg.n hn)) (by omega) (Nat.le_of_ble_eq_true rfl) (fun S71 Q71 => ?_)
        obtain rfl := Q71.symm
        refine px_aload_n dX12_denied_74 rfl rfl ?_
        refine px_iload_n dX12_denied_75 rfl rfl ?_
        refine px_iconst (v := 0) dX12_denied_76 (by decide) ?_
        refine mx_callV2 dX12_denied_77 lX12_199 rfl (m_add G m h0 S (sm (zN (S 14) t (sm z))) _ _ (by have := q1.1.1; have := q1.1.2.1; have := q1.1.2.2.1; omega)) (by omega) (Nat.le_of_ble_eq_true rfl) (fun S77 Q77 => ?_)
        obtain rfl := Q77.symm
        refine px_return dX12_denied_80 rfl ?_
        show layz S _ = layz S (zDen1 (S 14) t dn sm z)
        clear hR1 hS h1 h2 hn hT hz
        simp [zDen1, *]
      · skip
        rw [bI_0] at H57
        refine px_return dX12_denied_60 rfl ?_
        show layz S _ = layz S (zDen1 (S 14) t dn sm z)
        clear hR1 hS h1 h2 hn hT hz
        simp [zDen1, *]
  · skip
    rw [bI_0] at H6
    have H6 := Decidable.not_not.mp H6
    have hf := (ky_y H6).1
    refine px_aload_n dX12_denied_9 rfl rfl ?_
    refine mx_callI0 dX12_denied_10 lX12_206 rfl (m_opens G m h0 S t z hT hz hf) (by omega) (Nat.le_of_ble_eq_true rfl) (fun x10 S10 Q10 => ?_)
    obtain ⟨rfl, e10⟩ := Q10
    obtain rfl := e10.symm
    refine px_if_ne (tgt := 17) dX12_denied_13 (by decide) (fun H13 => ?_) (fun H13 => ?_)
    · skip
      have ho := nB' H13
      refine px_S (S' := layz S (zN (S 14) t (zI z))) (by rw [zOp, if_neg ho]) ?_
      obtain ⟨k1, k2, k3, k4, k5, k6, k7, k8, k9⟩ := opn_g (tp := S 14) h1 hz hf (hn hf) (Or.inl (ky_y H6).2.1) ho
      refine px_aload_n dX12_denied_17 rfl rfl ?_
      refine mx_callV0 dX12_denied_18 lX12_203 rfl (hR1 _ k1 hf (k2 hf)) (by omega) (Nat.le_of_ble_eq_true rfl) (fun S18 Q18 => ?_)
      obtain rfl := Q18.symm
      refine px_aload_n dX12_denied_21 rfl rfl ?_
      refine px_dup dX12_denied_22 rfl ?_
      refine mx_getI (k := 23) dX12_denied_23 gX12_184 (fun _ => rfl) ?_
      refine px_iconst (v := 1) dX12_denied_26 (by decide) ?_
      refine px_isub dX12_denied_27 ?_
      refine mx_putI (k := 23) dX12_denied_28 gX12_184 (by decide) rfl rfl ?_
      refine px_S (S' := layz S (zD (dn (zN (S 14) t (zI z))))) (zD_up k4) ?_
      refine px_aload_n dX12_denied_31 rfl rfl ?_
      refine px_iconst (v := 3) dX12_denied_32 (by decide) ?_
      refine px_iconst (v := 0) dX12_denied_33 (by decide) ?_
      refine mx_callV2 dX12_denied_34 lX12_199 rfl (m_add G m h0 S (zD (dn (zN (S 14) t (zI z)))) 3 0 (show (zL (dn (zN (S 14) t (zI z)))).length < 170 from by have := k3.1; have := k3.2.1; have := k3.2.2.1; omega)) (by omega) (Nat.le_of_ble_eq_true rfl) (fun S34 Q34 => ?_)
      obtain rfl := Q34.symm
      refine px_return dX12_denied_37 rfl ?_
      show layz S _ = layz S (zDen1 (S 14) t dn sm z)
      clear hR1 hS h1 h2 hn hT hz
      simp [zDen1, *]
    · skip
      have ho := nB H13
      refine px_S (S' := layz S (zW z)) (by rw [zOp, if_pos ho]) ?_
      refine px_return dX12_denied_16 rfl ?_
      show layz S _ = layz S (zDen1 (S 14) t dn sm z)
      clear hR1 hS h1 h2 hn hT hz
      simp [zDen1, *]
theorem MC.r {G : Gt} {m : Nat} {h0 : Ht} {S : MS} {t n d : Nat} {Y : Yt} {F : PZ → PZ} (h : MC G m h0 S t n d Y F) : MR G m h0 S t n d Y F := fun z hz hf hn => h z hz (fun _ => hn)
theorem MR0 {G : Gt} {m : Nat} {h0 : Ht} {S : MS} {t d : Nat} {Y : Yt} {F : PZ → PZ} : MR G m h0 S t 0 d Y F := fun z hz hf hn => absurd (hz.2.2.2.2.2.2 hf) (by omega)
/-- all readers, at each level -/
theorem m_all6 (G : Gt) (m : Nat) (h0 : Ht) (S : MS) (t : Nat) (hT : S 15 0 = nI t) : ∀ n, MR G m h0 S t n (6 + 6 * n) Y12_one (zP (S 14) t n).1 ∧ MR G m h0 S t n (6 + 6 * n + 3) Y12_denied (zP (S 14) t n).2 ∧ MR G m h0 S t n (6 + 6 * n + 5) Y12_either (zEi (S 14) t (zP (S 14) t n).2)
  | 0 => ⟨MR0, MR0, MR0⟩
  | n + 1 => by
    obtain ⟨i1, i2, i3⟩ := m_all6 G m h0 S t hT n
    have g := zP_g (S 14) t n
    have g' := zP_g (S 14) t (n + 1)
    have c1 : MC G m h0 S t (n + 1) (6 + 6 * n + 5 + 1) Y12_one (zP (S 14) t (n + 1)).1 := m_one G m h0 S t n (6 + 6 * n + 5) _ _ _ _ hT (by omega) (by omega) (by omega) g.1 (zEi_g g.2) i1 i3
    have c2 := m_term G m h0 S t (n + 1) (6 + 6 * n + 5 + 1) _ hT (by omega) g'.1 c1
    have c3 := m_sum G m h0 S t (n + 1) (6 + 6 * n + 5 + 1 + 1) _ hT (by omega) g'.1 c2
    have c4 : MC G m h0 S t (n + 1) (6 + 6 * n + 5 + 1 + 1 + 1 + 1) Y12_denied (zP (S 14) t (n + 1)).2 := m_denied G m h0 S t n (6 + 6 * n + 5 + 1 + 1 + 1) _ _ _ hT (by omega) (by omega) g.2 (zSum_g g'.1) i2 c3
    have c5 := m_all G m h0 S t (n + 1) (6 + 6 * n + 5 + 1 + 1 + 1 + 1) _ hT (by omega) g'.2 c4
    have c6 := m_either G m h0 S t (n + 1) (6 + 6 * n + 5 + 1 + 1 + 1 + 1 + 1) _ hT (by omega) g'.2 c5
    exact ⟨c1.r, c4.r, c6.r⟩
