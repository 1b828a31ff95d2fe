/-! THE CLASS: pickFrom, findBest -/
theorem oN_tN {q : Nat} (h : q < 6) : oN q < tN2 q := by
  rcases (by omega : q = 0 ∨ q = 1 ∨ q = 2 ∨ q = 3 ∨ q = 4 ∨ q = 5) with rfl | rfl | rfl | rfl | rfl | rfl <;> decide
def fb (U : MS) (c p part h : Nat) : Prop := ∀ q, q < 6 → tN2 q = part → ¬ mMeet U c (nI q) (dg p (oN q)) h = 0
theorem PF_of {U : MS} {n c p0 f r h part : Nat} (hf : part + (f + 1) = 5) (hr : r < 6 ^ f) (hh : h < 6) (hp : PF U n c ((p0 * 6 + h) * 6 ^ f + r) (part + 1)) : h < n ∧ ¬ U 2 h < gv5 U c (p0 * 6 ^ (f + 1)) h part + mTk U c (nI part) ∧ fb U c (p0 * 6 ^ (f + 1)) part h := by
  have da := dg_at (p0 := p0) hf hr hh
  have hr2 : h * 6 ^ f + r < 6 ^ (f + 1) := by
    have : h * 6 ^ f + 6 ^ f ≤ 6 ^ (f + 1) := by rw [Nat.pow_succ, Nat.mul_comm (6 ^ f), ← Nat.succ_mul]; exact Nat.mul_le_mul_right _ hh
    omega
  have dp : ∀ j, j < part → dg ((p0 * 6 + h) * 6 ^ f + r) j = dg (p0 * 6 ^ (f + 1)) j := fun j hj => by rw [pw_s, Nat.add_assoc]; exact dg_pre hf hr2 hj
  have hn : h < n := by have := hp.1 part (by omega); rwa [da] at this
  refine ⟨hn, ?_, fun q hq ht => ?_⟩
  · have := hp.2.1 h hn
    rwa [gv5, gv5_cong dp, da, if_pos rfl] at this
  · have h3 := hp.2.2 q hq (by omega)
    have h4 := oN_tN hq
    rwa [dp _ (by omega), ht, da] at h3
theorem PF_to {U : MS} {n c p0 f h part : Nat} (hf : part + (f + 1) = 5) (hh : h < 6) (hn : h < n) (hp : PF U n c (p0 * 6 ^ (f + 1)) part) (h1 : ¬ U 2 h < gv5 U c (p0 * 6 ^ (f + 1)) h part + mTk U c (nI part)) (h2 : fb U c (p0 * 6 ^ (f + 1)) part h) : PF U n c ((p0 * 6 + h) * 6 ^ f) (part + 1) ∧ (∀ x, gv5 U c ((p0 * 6 + h) * 6 ^ f) x (part + 1) = gv5 U c (p0 * 6 ^ (f + 1)) x part + (if h = x then mTk U c (nI part) else 0)) ∧ dg ((p0 * 6 + h) * 6 ^ f) part = h ∧ ∀ j, j < part → dg ((p0 * 6 + h) * 6 ^ f) j = dg (p0 * 6 ^ (f + 1)) j := by
  have hp6 : 0 < 6 ^ f := Nat.pow_pos (by decide)
  have da := dg_at (p0 := p0) (r := 0) hf hp6 hh
  rw [Nat.add_zero] at da
  have hr2 : h * 6 ^ f < 6 ^ (f + 1) := by
    have : h * 6 ^ f + 6 ^ f ≤ 6 ^ (f + 1) := by rw [Nat.pow_succ, Nat.mul_comm (6 ^ f), ← Nat.succ_mul]; exact Nat.mul_le_mul_right _ hh
    omega
  have dp : ∀ j, j < part → dg ((p0 * 6 + h) * 6 ^ f) j = dg (p0 * 6 ^ (f + 1)) j := fun j hj => by rw [pw_s]; exact dg_pre hf hr2 hj
  have hg : ∀ x, gv5 U c ((p0 * 6 + h) * 6 ^ f) x (part + 1) = gv5 U c (p0 * 6 ^ (f + 1)) x part + (if h = x then mTk U c (nI part) else 0) := fun x => by rw [gv5, gv5_cong dp, da]
  refine ⟨⟨fun j hj => ?_, fun x hx => ?_, fun q hq ht => ?_⟩, hg, da, dp⟩
  · by_cases e : j = part
    · subst e; rw [da]; exact hn
    · rw [dp j (by omega)]; exact hp.1 j (by omega)
  · rw [hg]
    by_cases e : h = x
    · subst e; rw [if_pos rfl]; exact h1
    · rw [if_neg e, Int32.add_zero]; exact hp.2.1 x hx
  · have h4 := oN_tN hq
    by_cases e : tN2 q = part
    · rw [dp _ (by omega), e, da]; exact h2 q hq e
    · rw [dp _ (by omega), dp _ (by omega)]; exact hp.2.2 q hq (by omega)
theorem not_gd {U : MS} {n c p0 f h part p : Nat} (hT : TKB U c) (hO : OB U n) (hf : part + (f + 1) = 5) (hh : h < 6) (h1 : p0 * 6 ^ (f + 1) + h * 6 ^ f ≤ p) (h2 : p < p0 * 6 ^ (f + 1) + h * 6 ^ f + 6 ^ f) (hno : h < n → ¬ U 2 h < gv5 U c (p0 * 6 ^ (f + 1)) h part + mTk U c (nI part) → fb U c (p0 * 6 ^ (f + 1)) part h → False) : ¬ gd U n c p := by
  intro hg
  obtain ⟨r, rfl⟩ := Nat.exists_eq_add_of_le h1
  have hr : r < 6 ^ f := by omega
  have hp := PF.at5 hT hO hg (k := part + 1) (by omega)
  rw [← pw_s] at hp
  obtain ⟨a, b, c⟩ := PF_of hf hr hh hp
  exact hno a b c
theorem not_gd2 {U : MS} {n c p0 f part p : Nat} (hT : TKB U c) (hO : OB U n) (hf : part + (f + 1) = 5) (hn : n ≤ 6) (h1 : p0 * 6 ^ (f + 1) + n * 6 ^ f ≤ p) (h2 : p < p0 * 6 ^ (f + 1) + 6 ^ (f + 1)) : ¬ gd U n c p := by
  have hp6 : 0 < 6 ^ f := Nat.pow_pos (by decide)
  obtain ⟨r, rfl⟩ := Nat.exists_eq_add_of_le (show p0 * 6 ^ (f + 1) ≤ p by omega)
  have e6 : 6 ^ (f + 1) = 6 * 6 ^ f := by rw [Nat.pow_succ, Nat.mul_comm]
  obtain ⟨q, s, rfl, hs⟩ : ∃ q s, r = q * 6 ^ f + s ∧ s < 6 ^ f := ⟨r / 6 ^ f, r % 6 ^ f, by rw [Nat.mul_comm]; exact (Nat.div_add_mod r (6 ^ f)).symm, Nat.mod_lt _ hp6⟩
  have hh : q < 6 := Nat.lt_of_mul_lt_mul_right (a := 6 ^ f) (by rw [← e6]; omega)
  refine not_gd (p0 := p0) hT hO hf hh (by omega) (by omega) (fun hlt _ _ => ?_)
  have h4 : (q + 1) * 6 ^ f ≤ n * 6 ^ f := Nat.mul_le_mul_right _ hlt
  rw [Nat.succ_mul] at h4
  omega
def scP (κ : Nat) : List Nat := [120 + 10 * κ, 122 + 10 * κ, 126 + 10 * κ]
/-- the search stands in prefix P of part parts, at parting P' -/
def PKS (T : MS) (κ : Nat) (U : MS) (n c : Nat) (al : Int32) (part P P' : Nat) : Prop := LO T κ U n c ∧ (∀ h, h < 6 → T (122 + 10 * κ) h = gv5 U c P h part) ∧ (∀ j, j < part → T (126 + 10 * κ) j = nI (dg P j)) ∧ MTC T κ U n c al P'
set_option maxHeartbeats 4000000 in
set_option maxRecDepth 100000 in
theorem lp_fb (G : Gt) (m : Nat → Prop) (M0 : Nat → va_E) (Q : Qt) (S : MS) (κ n c P part h : Nat) (U : MS) (hκ : κ < 2) (hn : n ≤ 6) (hT : TKB U c) (hO : OB U n) (hLO : LO S κ U n c) (hd : ∀ j, j < part → S (126 + 10 * κ) j = nI (dg P j)) (hb : ∀ j, j < part → dg P j < n) (hh : h < n) (hp5 : part < 5) : ∀ (kk q : Nat), (∀ q', q' < q → tN2 q' = part → ¬ mMeet U c (nI q') (dg P (oN q')) h = 0) → q ≤ 6 → 7 ≤ q + kk → PX G (CPic G m M0 Q) 2 Y3_fitsBelow 2 [some (.ref (Q.1 13 κ)), some (.int (nI part)), some (.int (nI h)), some (.int (nI q))] [] S 0 0 (ri (fun x S' => ((x = 1 ∧ fb U c P part h) ∨ (x = 0 ∧ ¬ fb U c P part h)) ∧ S' = S)) := by
  intro kk
  induction kk with
  | zero => intro q h1 h2 h3; omega
  | succ kk ih =>
    intro q hq hk hkk
    refine px_iload_n dX3_fitsBelow_2 rfl rfl ?_
    refine px_bipush (v := 6) dX3_fitsBelow_3 (by decide) ?_
    refine px_icmp_ge (tgt := 44) dX3_fitsBelow_5 (by decide) (fun H5 => ?_) (fun H5 => ?_)
    · skip
      have e6 : q = 6 := by have := ge_n (a := q) (b := 6) (by omega) (by omega) H5; omega
      subst e6
      refine px_iconst (v := 1) dX3_fitsBelow_44 (by decide) ?_
      refine px_iretZ dX3_fitsBelow_45 rfl (by first | rfl | decide) ?_
      exact ⟨Or.inl ⟨rfl, fun q1 h1 h2 => hq q1 h1 h2⟩, rfl⟩
    · skip
      have l6 : q < 6 := lt_n (a := q) (b := 6) (by omega) (by omega) H5
      have ot := oN_tN l6
      have ob := oN_lt l6
      refine px_high dX3_fitsBelow_8 (by decide +kernel) ?_
      refine px_iload_n dX3_fitsBelow_11 rfl rfl ?_
      refine px_highL q dX3_fitsBelow_12 rfl l6 (highN l6) ?_
      refine px_iload_n dX3_fitsBelow_13 rfl rfl ?_
      refine px_icmp_ne (tgt := 38) dX3_fitsBelow_14 (by decide) (fun H14 => ?_) (fun H14 => ?_)
      · skip
        have e14 := ne_n (by omega) (by omega) H14
        refine px_iinc_3 (v := 1) dX3_fitsBelow_38 (by decide) (by decide) rfl ?_
        refine px_goto (tgt := 2) dX3_fitsBelow_41 (by decide) ?_
        rw [nI_1]
        refine ih (q + 1) (fun q1 h1 h2 => ?_) (by omega) (by omega)
        rcases Nat.lt_or_ge q1 q with z | z
        · exact hq q1 z h2
        · have z2 : q1 = q := by omega
          subst z2
          first
          | exact absurd h2 e14
          | exact H33
      · skip
        have e14 := eq_n (by omega) (by omega) H14
        refine px_aload_n dX3_fitsBelow_17 rfl rfl ?_
        refine px_iload_n dX3_fitsBelow_18 rfl rfl ?_
        refine px_aload_n dX3_fitsBelow_19 rfl rfl ?_
        refine cx_get (k := 13) (i := κ) (f := 9) dX3_fitsBelow_20 gX3_27 rfl (show κ < 2 by omega) rfl ?_
        refine px_low dX3_fitsBelow_23 (by decide +kernel) ?_
        refine px_iload_n dX3_fitsBelow_26 rfl rfl ?_
        refine px_lowL q dX3_fitsBelow_27 rfl l6 (lowN l6) ?_
        refine cx_iald (k := 19) (i := κ) (r := (126 + 10 * κ)) (oN q) dX3_fitsBelow_28 rfl (show κ < 2 by omega) rfl (by omega) (by decide) ?_
        refine px_top (hd _ (by omega)) ?_
        refine px_iload_n dX3_fitsBelow_29 rfl rfl ?_
        refine cx_callI3 (k := 13) (i := κ) dX3_fitsBelow_30 lX3_70 rfl (show κ < 2 by omega) rfl (c_X3_fitTogether G m M0 Q S κ n c q (dg P (oN q)) h U (d := 1) hκ hLO hn l6 (hb _ (by omega)) hh) (by decide) (Nat.le_of_ble_eq_true rfl) (fun x30 S30 Q30 => ?_)
        obtain ⟨rfl, e30⟩ := Q30
        obtain rfl := e30.symm
        refine px_if_ne (tgt := 38) dX3_fitsBelow_33 (by decide) (fun H33 => ?_) (fun H33 => ?_)
        · skip
          refine px_iinc_3 (v := 1) dX3_fitsBelow_38 (by decide) (by decide) rfl ?_
          refine px_goto (tgt := 2) dX3_fitsBelow_41 (by decide) ?_
          rw [nI_1]
          refine ih (q + 1) (fun q1 h1 h2 => ?_) (by omega) (by omega)
          rcases Nat.lt_or_ge q1 q with z | z
          · exact hq q1 z h2
          · have z2 : q1 = q := by omega
            subst z2
            first
            | exact absurd h2 e14
            | exact H33
        · skip
          refine px_iconst (v := 0) dX3_fitsBelow_36 (by decide) ?_
          refine px_iretZ dX3_fitsBelow_37 rfl (by first | rfl | decide) ?_
          exact ⟨Or.inr ⟨rfl, fun hx => hx q l6 e14 H33⟩, rfl⟩
set_option maxHeartbeats 4000000 in
set_option maxRecDepth 100000 in
theorem c_X3_fitsBelow (G : Gt) (m : Nat → Prop) (M0 : Nat → va_E) (Q : Qt) (S : MS) (κ n c P part h : Nat) (U : MS) (hκ : κ < 2) (hn : n ≤ 6) (hT : TKB U c) (hO : OB U n) (hLO : LO S κ U n c) (hd : ∀ j, j < part → S (126 + 10 * κ) j = nI (dg P j)) (hb : ∀ j, j < part → dg P j < n) (hh : h < n) (hp5 : part < 5) : PC G (CPic G m M0 Q) 2 Y3_fitsBelow [.ref (Q.1 13 κ), .int (nI part), .int (nI h)] S 0 0 (ri (fun x S' => ((x = 1 ∧ fb U c P part h) ∨ (x = 0 ∧ ¬ fb U c P part h)) ∧ S' = S)) := by
  refine pc_of (ls := [some (.ref (Q.1 13 κ)), some (.int (nI part)), some (.int (nI h)), none]) (by decide +kernel) rfl (Nat.le_of_ble_eq_true rfl) ?_
  refine px_iconst (v := 0) dX3_fitsBelow_0 (by decide) ?_
  refine px_istore_n3 dX3_fitsBelow_1 (by decide) rfl ?_
  exact lp_fb G m M0 Q S κ n c P part h U hκ hn hT hO hLO hd hb hh hp5 7 0 (fun q h1 => by omega) (by omega) (by omega)
def PKC (G : Gt) (m : Nat → Prop) (M0 : Nat → va_E) (Q : Qt) (κ n c : Nat) (U : MS) (al : Int32) (f : Nat) : Prop := ∀ (S : MS) (part p0 : Nat), part + f = 5 → p0 < 6 ^ part → PF U n c (p0 * 6 ^ f) part → PKS S κ U n c al part (p0 * 6 ^ f) (p0 * 6 ^ f) → S (120 + 10 * κ) 5 = 0 → PC G (CPic G m M0 Q) (3 + f) Y3_pickFrom [.ref (Q.1 13 κ), .int (nI part), .int (nI p0)] S 0 0 (rv (fun S' => fr (scP κ) S S' ∧ PKS S' κ U n c al part (p0 * 6 ^ f) (p0 * 6 ^ f + 6 ^ f)))
theorem scP_K {κ : Nat} : ∀ q, q ∈ scK κ → q ∈ scP κ := by
  intro q hq
  unfold scK at hq
  unfold scP
  simp only [List.mem_cons, List.not_mem_nil, or_false] at hq ⊢
  omega
set_option maxHeartbeats 4000000 in
set_option maxRecDepth 100000 in
theorem lp_pick (G : Gt) (m : Nat → Prop) (M0 : Nat → va_E) (Q : Qt) (S : MS) (κ n c f part p0 : Nat) (U : MS) (al : Int32) (hκ : κ < 2) (hn : n ≤ 6) (hT : TKB U c) (hO : OB U n) (hrec : PKC G m M0 Q κ n c U al f) (hf : part + (f + 1) = 5) (hp0 : p0 < 6 ^ part) (hPF : PF U n c (p0 * 6 ^ (f + 1)) part) : ∀ (kk h : Nat) (T : MS), fr (scP κ) S T → PKS T κ U n c al part (p0 * 6 ^ (f + 1)) (p0 * 6 ^ (f + 1) + h * 6 ^ f) → h ≤ n → n + 1 ≤ h + kk → PX G (CPic G m M0 Q) (3 + (f + 1)) Y3_pickFrom 13 [some (.ref (Q.1 13 κ)), some (.int (nI part)), some (.int (nI p0)), some (.int (nI h))] [] T 0 0 (rv (fun S' => fr (scP κ) S S' ∧ PKS S' κ U n c al part (p0 * 6 ^ (f + 1)) (p0 * 6 ^ (f + 1) + 6 ^ (f + 1)))) := by
  intro kk
  induction kk with
  | zero => intro h T h1 h2 h3 h4; omega
  | succ kk ih =>
    intro h T hfr hpk hh hk
    obtain ⟨L1, hu, hd, hM⟩ := hpk
    have e6 : 6 ^ (f + 1) = 6 * 6 ^ f := by rw [Nat.pow_succ, Nat.mul_comm]
    have pos6 : 0 < 6 ^ f := Nat.pow_pos (by decide)
    refine px_iload_n dX3_pickFrom_13 rfl rfl ?_
    refine px_aload_n dX3_pickFrom_14 rfl rfl ?_
    refine cx_get (k := 13) (i := κ) (f := 3) dX3_pickFrom_15 gX3_36 rfl (show κ < 2 by omega) rfl ?_
    refine px_icmp_ge (tgt := 115) dX3_pickFrom_18 (by decide) (fun H18 => ?_) (fun H18 => ?_)
    · skip
      rw [L1.1] at H18
      have eh : h = n := by have := ge_n (by omega) (by omega) H18; omega
      subst eh
      refine px_return dX3_pickFrom_115 rfl ?_
      first
      | refine ⟨hfr, L1, hu, hd, ?_⟩
        rw [show p0 * 6 ^ (f + 1) + 6 ^ (f + 1) = p0 * 6 ^ (f + 1) + h * 6 ^ f + (6 ^ (f + 1) - h * 6 ^ f) from (by have q9 : h * 6 ^ f ≤ 6 ^ (f + 1) := (by rw [e6]; exact Nat.mul_le_mul_right _ hn); omega)]
        refine hM.skip (fun p h1 h2 => not_gd2 hT hO hf hn h1 ?_)
        have : h * 6 ^ f ≤ 6 ^ (f + 1) := by (rw [e6]; exact Nat.mul_le_mul_right _ hn)
        omega
      | refine ⟨hfr, L1, hu, hd, ?_⟩
        rw [show p0 * 6 ^ (f + 1) + 6 ^ (f + 1) = p0 * 6 ^ (f + 1) + h * 6 ^ f + (6 ^ (f + 1) - h * 6 ^ f) from (by have q9 : h * 6 ^ f ≤ 6 ^ (f + 1) := (by rw [e6]; exact Nat.mul_le_mul_right _ (by omega)); omega)]
        exact hM.stop hn H25
    · skip
      rw [L1.1] at H18
      have lh : h < n := lt_n (by omega) (by omega) H18
      refine px_aload_n dX3_pickFrom_21 rfl rfl ?_
      refine cx_get (k := 13) (i := κ) (f := 11) dX3_pickFrom_22 gX3_87 rfl (show κ < 2 by omega) rfl ?_
      refine px_if_ne (tgt := 115) dX3_pickFrom_25 (by decide) (fun H25 => ?_) (fun H25 => ?_)
      · skip
        refine px_return dX3_pickFrom_115 rfl ?_
        first
        | refine ⟨hfr, L1, hu, hd, ?_⟩
          rw [show p0 * 6 ^ (f + 1) + 6 ^ (f + 1) = p0 * 6 ^ (f + 1) + h * 6 ^ f + (6 ^ (f + 1) - h * 6 ^ f) from (by have q9 : h * 6 ^ f ≤ 6 ^ (f + 1) := (by rw [e6]; exact Nat.mul_le_mul_right _ hn); omega)]
          refine hM.skip (fun p h1 h2 => not_gd2 hT hO hf hn h1 ?_)
          have : h * 6 ^ f ≤ 6 ^ (f + 1) := by (rw [e6]; exact Nat.mul_le_mul_right _ hn)
          omega
        | refine ⟨hfr, L1, hu, hd, ?_⟩
          rw [show p0 * 6 ^ (f + 1) + 6 ^ (f + 1) = p0 * 6 ^ (f + 1) + h * 6 ^ f + (6 ^ (f + 1) - h * 6 ^ f) from (by have q9 : h * 6 ^ f ≤ 6 ^ (f + 1) := (by rw [e6]; exact Nat.mul_le_mul_right _ (by omega)); omega)]
          exact hM.stop hn H25
      · skip
        refine px_aload_n dX3_pickFrom_28 rfl rfl ?_
        refine cx_get (k := 13) (i := κ) (f := 5) dX3_pickFrom_29 gX3_15 rfl (show κ < 2 by omega) rfl ?_
        refine px_iload_n dX3_pickFrom_32 rfl rfl ?_
        refine cx_iald (k := 15) (i := κ) (r := (122 + 10 * κ)) (h) dX3_pickFrom_33 rfl (show κ < 2 by omega) rfl (by omega) (by decide) ?_
        refine px_top (hu h (by omega)) ?_
        refine px_aload_n dX3_pickFrom_34 rfl rfl ?_
        refine cx_get (k := 13) (i := κ) (f := 7) dX3_pickFrom_35 gX3_21 rfl (show κ < 2 by omega) rfl ?_
        refine px_iload_n dX3_pickFrom_38 rfl rfl ?_
        refine cx_iald (k := 17) (i := κ) (r := (124 + 10 * κ)) (part) dX3_pickFrom_39 rfl (show κ < 2 by omega) rfl (by omega) (by decide) ?_
        refine px_top (L1.2.1 part (by omega)) ?_
        refine px_iadd dX3_pickFrom_40 ?_
        refine px_aload_n dX3_pickFrom_41 rfl rfl ?_
        refine cx_get (k := 13) (i := κ) (f := 4) dX3_pickFrom_42 gX3_9 rfl (show κ < 2 by omega) rfl ?_
        refine px_iload_n dX3_pickFrom_45 rfl rfl ?_
        refine cx_iald (k := 14) (i := κ) (r := (121 + 10 * κ)) (h) dX3_pickFrom_46 rfl (show κ < 2 by omega) rfl (by omega) (by decide) ?_
        refine px_top (L1.2.2.2.1 h lh) ?_
        refine px_icmp_gt (tgt := 109) dX3_pickFrom_47 (by decide) (fun H47 => ?_) (fun H47 => ?_)
        · skip
          refine px_iinc_3 (v := 1) dX3_pickFrom_109 (by decide) (by decide) rfl ?_
          refine px_goto (tgt := 13) dX3_pickFrom_112 (by decide) ?_
          rw [nI_1]
          first
          | refine ih (h + 1) T hfr ⟨L1, hu, hd, ?_⟩ (by omega) (by omega)
            rw [Nat.succ_mul, ← Nat.add_assoc]
            first
            | exact hM.skip (fun p h1 h2 => not_gd hT hO hf (by omega) h1 h2 (fun _ q _ => q H47))
            | exact hM.skip (fun p h1 h2 => not_gd hT hO hf (by omega) h1 h2 (fun _ _ q => nfb q))
          | refine ih (h + 1) _ (((hfr.tr (f2.mono scP_K)).tr f91).up (by simp [scP])) ⟨L91.frK (fr.rf.up (by simp [scK])), fun x hx => ?_, fun j hj => ?_, ?_⟩ (by omega) (by omega)
            · rw [up2_eq]
              by_cases e : x = h
              · subst e; exact pk_us
              · rw [pk_un e, hu91 x hx, z2, if_neg (fun q => e q.symm), Int32.add_zero]
            · rw [up2_ne (by omega), hd91 j (by omega), z4 j hj]
            · rw [pw_s, Nat.add_assoc] at hM91
              rw [show (h + 1) * 6 ^ f = h * 6 ^ f + 6 ^ f from Nat.succ_mul _ _]
              exact hM91.go (show up2 S91 (122 + 10 * κ) h _ (120 + 10 * κ) = S91 (120 + 10 * κ) from up2_ne (by omega))
        · skip
          refine px_aload_n dX3_pickFrom_50 rfl rfl ?_
          refine px_iload_n dX3_pickFrom_51 rfl rfl ?_
          refine px_iload_n dX3_pickFrom_52 rfl rfl ?_
          refine cx_callI2 (k := 13) (i := κ) dX3_pickFrom_53 lX3_98 rfl (show κ < 2 by omega) rfl (c_X3_fitsBelow G m M0 Q T κ n c (p0 * 6 ^ (f + 1)) part h U hκ hn hT hO L1 hd hPF.1 lh (by omega)) (by omega) (Nat.le_of_ble_eq_true rfl) (fun x53 S53 Q53 => ?_)
          obtain ⟨hx53, e53⟩ := Q53
          obtain rfl := e53.symm
          refine px_if_eq (tgt := 109) dX3_pickFrom_56 (by decide) (fun H56 => ?_) (fun H56 => ?_)
          · skip
            have nfb : ¬ fb U c (p0 * 6 ^ (f + 1)) part h := by
              rcases hx53 with ⟨hx, hy⟩ | ⟨hx, hy⟩
              · rw [hx] at H56; exact absurd H56 (by decide)
              · exact hy
            refine px_iinc_3 (v := 1) dX3_pickFrom_109 (by decide) (by decide) rfl ?_
            refine px_goto (tgt := 13) dX3_pickFrom_112 (by decide) ?_
            rw [nI_1]
            first
            | refine ih (h + 1) T hfr ⟨L1, hu, hd, ?_⟩ (by omega) (by omega)
              rw [Nat.succ_mul, ← Nat.add_assoc]
              first
              | exact hM.skip (fun p h1 h2 => not_gd hT hO hf (by omega) h1 h2 (fun _ q _ => q H47))
              | exact hM.skip (fun p h1 h2 => not_gd hT hO hf (by omega) h1 h2 (fun _ _ q => nfb q))
            | refine ih (h + 1) _ (((hfr.tr (f2.mono scP_K)).tr f91).up (by simp [scP])) ⟨L91.frK (fr.rf.up (by simp [scK])), fun x hx => ?_, fun j hj => ?_, ?_⟩ (by omega) (by omega)
              · rw [up2_eq]
                by_cases e : x = h
                · subst e; exact pk_us
                · rw [pk_un e, hu91 x hx, z2, if_neg (fun q => e q.symm), Int32.add_zero]
              · rw [up2_ne (by omega), hd91 j (by omega), z4 j hj]
              · rw [pw_s, Nat.add_assoc] at hM91
                rw [show (h + 1) * 6 ^ f = h * 6 ^ f + 6 ^ f from Nat.succ_mul _ _]
                exact hM91.go (show up2 S91 (122 + 10 * κ) h _ (120 + 10 * κ) = S91 (120 + 10 * κ) from up2_ne (by omega))
          · skip
            have yfb : fb U c (p0 * 6 ^ (f + 1)) part h := by
              rcases hx53 with ⟨hx, hy⟩ | ⟨hx, hy⟩
              · exact hy
              · exact absurd hx H56
            obtain ⟨z1, z2, z3, z4⟩ := PF_to hf (by omega) lh hPF H47 yfb
            refine px_aload_n dX3_pickFrom_59 rfl rfl ?_
            refine cx_get (k := 13) (i := κ) (f := 9) dX3_pickFrom_60 gX3_27 rfl (show κ < 2 by omega) rfl ?_
            refine px_iload_n dX3_pickFrom_63 rfl rfl ?_
            refine px_iload_n dX3_pickFrom_64 rfl rfl ?_
            refine cx_iast (k := 19) (i := κ) (r := (126 + 10 * κ)) (part) dX3_pickFrom_65 (fun _ _ => rfl) (show κ < 2 by omega) (by omega) (ow_120 (by omega) _).2.2.2.2.2.2 rfl (by omega) (by decide) ?_
            generalize hT1 : up2 T (126 + 10 * κ) part (nI h) = T1
            have t1u : T1 (122 + 10 * κ) = T (122 + 10 * κ) := by rw [← hT1]; exact up2_ne (by omega)
            have t1t : T1 (124 + 10 * κ) = T (124 + 10 * κ) := by rw [← hT1]; exact up2_ne (by omega)
            refine px_aload_n dX3_pickFrom_66 rfl rfl ?_
            refine cx_get (k := 13) (i := κ) (f := 5) dX3_pickFrom_67 gX3_15 rfl (show κ < 2 by omega) rfl ?_
            refine px_iload_n dX3_pickFrom_70 rfl rfl ?_
            refine px_dup2 dX3_pickFrom_71 rfl rfl ?_
            refine cx_iald (k := 15) (i := κ) (r := (122 + 10 * κ)) (h) dX3_pickFrom_72 rfl (show κ < 2 by omega) rfl (by omega) (by decide) ?_
            rw [t1u, hu h (by omega)]
            refine px_aload_n dX3_pickFrom_73 rfl rfl ?_
            refine cx_get (k := 13) (i := κ) (f := 7) dX3_pickFrom_74 gX3_21 rfl (show κ < 2 by omega) rfl ?_
            refine px_iload_n dX3_pickFrom_77 rfl rfl ?_
            refine cx_iald (k := 17) (i := κ) (r := (124 + 10 * κ)) (part) dX3_pickFrom_78 rfl (show κ < 2 by omega) rfl (by omega) (by decide) ?_
            rw [t1t, L1.2.1 part (by omega)]
            refine px_iadd dX3_pickFrom_79 ?_
            refine cx_iast (k := 15) (i := κ) (r := (122 + 10 * κ)) (h) dX3_pickFrom_80 (fun _ _ => rfl) (show κ < 2 by omega) (by omega) (ow_120 (by omega) _).2.2.1 rfl (by omega) (by decide) ?_
            generalize hT2 : up2 T1 (122 + 10 * κ) h (gv5 U c (p0 * 6 ^ (f + 1)) h part + mTk U c (nI part)) = T2
            have f2 : fr (scK κ) T T2 := by rw [← hT2, ← hT1]; exact (fr.rf.up (by simp [scK])).up (by simp [scK])
            have L2 := L1.frK f2
            have hM2 : MTC T2 κ U n c al ((p0 * 6 + h) * 6 ^ f) := by rw [pw_s]; exact hM.go (f2 _ (scK_n (by omega) (by omega)))
            have hu2 : ∀ x, x < 6 → T2 (122 + 10 * κ) x = gv5 U c ((p0 * 6 + h) * 6 ^ f) x (part + 1) := fun x hx => by
              rw [z2, ← hT2, up2_eq]
              by_cases e : h = x
              · subst e; rw [pk_us, if_pos rfl]
              · rw [pk_un (fun q => e q.symm), if_neg e, Int32.add_zero, t1u]; exact hu x hx
            have hd2 : ∀ j, j < part + 1 → T2 (126 + 10 * κ) j = nI (dg ((p0 * 6 + h) * 6 ^ f) j) := fun j hj => by
              rw [← hT2, up2_ne (by omega), ← hT1, up2_eq]
              by_cases e : j = part
              · subst e; rw [pk_us, z3]
              · rw [pk_un e, z4 j (by omega)]; exact hd j (by omega)
            have h52 : T2 (120 + 10 * κ) 5 = 0 := by rw [f2 _ (scK_n (by omega) (by omega))]; exact H25
            refine px_aload_n dX3_pickFrom_81 rfl rfl ?_
            refine px_iload_n dX3_pickFrom_82 rfl rfl ?_
            refine px_iconst (v := 1) dX3_pickFrom_83 (by decide) ?_
            refine px_iadd dX3_pickFrom_84 ?_
            refine px_iload_n dX3_pickFrom_85 rfl rfl ?_
            refine px_bipush (v := 6) dX3_pickFrom_86 (by decide) ?_
            refine px_imul dX3_pickFrom_88 ?_
            refine px_iload_n dX3_pickFrom_89 rfl rfl ?_
            refine px_iadd dX3_pickFrom_90 ?_
            rw [nI_1, show nI p0 * 6 + nI h = nI (p0 * 6 + h) from by rw [show (6 : Int32) = nI 6 from rfl, pk_mul, nI_add]]
            refine cx_callV2 (k := 13) (i := κ) dX3_pickFrom_91 lX3_90 rfl (show κ < 2 by omega) rfl (hrec T2 (part + 1) (p0 * 6 + h) (by omega) (by rw [Nat.pow_succ]; omega) z1 ⟨L2, hu2, hd2, hM2⟩ h52) (by omega) (Nat.le_of_ble_eq_true rfl) (fun S91 Q91 => ?_)
            obtain ⟨f91, L91, hu91, hd91, hM91⟩ := Q91
            refine px_aload_n dX3_pickFrom_94 rfl rfl ?_
            refine cx_get (k := 13) (i := κ) (f := 5) dX3_pickFrom_95 gX3_15 rfl (show κ < 2 by omega) rfl ?_
            refine px_iload_n dX3_pickFrom_98 rfl rfl ?_
            refine px_dup2 dX3_pickFrom_99 rfl rfl ?_
            refine cx_iald (k := 15) (i := κ) (r := (122 + 10 * κ)) (h) dX3_pickFrom_100 rfl (show κ < 2 by omega) rfl (by omega) (by decide) ?_
            rw [hu91 h (by omega), z2, if_pos rfl]
            refine px_aload_n dX3_pickFrom_101 rfl rfl ?_
            refine cx_get (k := 13) (i := κ) (f := 7) dX3_pickFrom_102 gX3_21 rfl (show κ < 2 by omega) rfl ?_
            refine px_iload_n dX3_pickFrom_105 rfl rfl ?_
            refine cx_iald (k := 17) (i := κ) (r := (124 + 10 * κ)) (part) dX3_pickFrom_106 rfl (show κ < 2 by omega) rfl (by omega) (by decide) ?_
            rw [L91.2.1 part (by omega)]
            refine px_isub dX3_pickFrom_107 ?_
            rw [Int32.add_sub_cancel]
            refine cx_iast (k := 15) (i := κ) (r := (122 + 10 * κ)) (h) dX3_pickFrom_108 (fun _ _ => rfl) (show κ < 2 by omega) (by omega) (ow_120 (by omega) _).2.2.1 rfl (by omega) (by decide) ?_
            refine px_iinc_3 (v := 1) dX3_pickFrom_109 (by decide) (by decide) rfl ?_
            refine px_goto (tgt := 13) dX3_pickFrom_112 (by decide) ?_
            rw [nI_1]
            first
            | refine ih (h + 1) T hfr ⟨L1, hu, hd, ?_⟩ (by omega) (by omega)
              rw [Nat.succ_mul, ← Nat.add_assoc]
              first
              | exact hM.skip (fun p h1 h2 => not_gd hT hO hf (by omega) h1 h2 (fun _ q _ => q H47))
              | exact hM.skip (fun p h1 h2 => not_gd hT hO hf (by omega) h1 h2 (fun _ _ q => nfb q))
            | refine ih (h + 1) _ (((hfr.tr (f2.mono scP_K)).tr f91).up (by simp [scP])) ⟨L91.frK (fr.rf.up (by simp [scK])), fun x hx => ?_, fun j hj => ?_, ?_⟩ (by omega) (by omega)
              · rw [up2_eq]
                by_cases e : x = h
                · subst e; exact pk_us
                · rw [pk_un e, hu91 x hx, z2, if_neg (fun q => e q.symm), Int32.add_zero]
              · rw [up2_ne (by omega), hd91 j (by omega), z4 j hj]
              · rw [pw_s, Nat.add_assoc] at hM91
                rw [show (h + 1) * 6 ^ f = h * 6 ^ f + 6 ^ f from Nat.succ_mul _ _]
                exact hM91.go (show up2 S91 (122 + 10 * κ) h _ (120 + 10 * κ) = S91 (120 + 10 * κ) from up2_ne (by omega))
set_option maxHeartbeats 4000000 in
set_option maxRecDepth 100000 in
theorem c_X3_pickFrom (G : Gt) (m : Nat → Prop) (M0 : Nat → va_E) (Q : Qt) (κ n c : Nat) (U : MS) (al : Int32) (hκ : κ < 2) (hn : n ≤ 6) (hT : TKB U c) (hO : OB U n) : ∀ f, PKC G m M0 Q κ n c U al f := by
  intro f
  induction f with
  | zero =>
    intro S part p0 hf hp0 hPF hpk h5
    rw [Nat.pow_zero, Nat.mul_one] at *
    have p5 : part = 5 := by omega
    subst p5
    refine pc_of (ls := [some (.ref (Q.1 13 κ)), some (.int (nI 5)), some (.int (nI p0)), none]) (by decide +kernel) rfl (Nat.le_of_ble_eq_true rfl) ?_
    refine px_iload_n dX3_pickFrom_0 rfl rfl ?_
    refine px_iconst (v := 5) dX3_pickFrom_1 (by decide) ?_
    refine px_icmp_lt (tgt := 11) dX3_pickFrom_2 (by decide) (fun H2 => ?_) (fun H2 => ?_)
    · skip
      exact absurd (lt_n (b := 5) (by omega) (by omega) H2) (by omega)
    · skip
      refine px_aload_n dX3_pickFrom_5 rfl rfl ?_
      refine px_iload_n dX3_pickFrom_6 rfl rfl ?_
      refine cx_callV1 (k := 13) (i := κ) dX3_pickFrom_7 lX3_94 rfl (show κ < 2 by omega) rfl (c_X3_weigh G m M0 Q S κ n c p0 U al hκ hpk.1 hn hT hO (show p0 < 7776 from hp0) (gd_PF.mpr hPF) (fun h hh => by rw [hpk.2.1 h hh]; rfl) hpk.2.2.2 h5) (by omega) (Nat.le_of_ble_eq_true rfl) (fun S7 Q7 => ?_)
      obtain ⟨f7, e7, m7⟩ := Q7
      refine px_return dX3_pickFrom_10 rfl ?_
      exact ⟨f7.mono (by intro q hq; unfold scP; simp only [List.mem_cons, List.not_mem_nil, or_false] at hq ⊢; omega), hpk.1.go e7 (f7 _ (by simp)) (f7 _ (by simp)) (f7 _ (by simp)) (f7 _ (by simp)), fun h hh => by rw [f7 _ (by simp)]; exact hpk.2.1 h hh, fun j hj => by rw [f7 _ (by simp)]; exact hpk.2.2.1 j hj, m7⟩
  | succ f ih =>
    intro S part p0 hf hp0 hPF hpk h5
    refine pc_of (ls := [some (.ref (Q.1 13 κ)), some (.int (nI part)), some (.int (nI p0)), none]) (by decide +kernel) rfl (Nat.le_of_ble_eq_true rfl) ?_
    refine px_iload_n dX3_pickFrom_0 rfl rfl ?_
    refine px_iconst (v := 5) dX3_pickFrom_1 (by decide) ?_
    refine px_icmp_lt (tgt := 11) dX3_pickFrom_2 (by decide) (fun H2 => ?_) (fun H2 => ?_)
    · skip
      refine px_iconst (v := 0) dX3_pickFrom_11 (by decide) ?_
      refine px_istore_n3 dX3_pickFrom_12 (by decide) rfl ?_
      exact lp_pick G m M0 Q S κ n c f part p0 U al hκ hn hT hO ih hf hp0 hPF (n + 1) 0 S fr.rf ⟨hpk.1, hpk.2.1, hpk.2.2.1, by rw [Nat.zero_mul, Nat.add_zero]; exact hpk.2.2.2⟩ (by omega) (by omega)
    · skip
      exact absurd (ge_n (b := 5) (by omega) (by omega) H2) (by omega)
set_option maxHeartbeats 4000000 in
set_option maxRecDepth 100000 in
theorem c_X3_findBest (G : Gt) (m : Nat → Prop) (M0 : Nat → va_E) (Q : Qt) (S : MS) (κ n c : Nat) (U : MS) (al : Int32) (hLO : LO S κ U n c) (hal : al = 0 ∨ al = 1) (hκ : κ < 2) (hn : n ≤ 6) (hT : TKB U c) (hO : OB U n) : PC G (CPic G m M0 Q) 9 Y3_findBest [.ref (Q.1 13 κ), .int al] S 0 0 (rv (fun S' => fr (scP κ) S S' ∧ LO S' κ U n c ∧ MTC S' κ U n c al 7776)) := by
  refine pc_of (ls := [some (.ref (Q.1 13 κ)), some (.int al)]) (by decide +kernel) rfl (Nat.le_of_ble_eq_true rfl) ?_
  refine px_aload_n dX3_findBest_0 rfl rfl ?_
  refine px_iconst (v := (-1)) dX3_findBest_1 (by decide) ?_
  refine cx_put (k := 13) (i := κ) (f := 0) (r := (120 + 10 * κ)) (j := 0) dX3_findBest_2 gX3_74 rfl (show κ < 2 by omega) (Nat.le_of_ble_eq_true rfl) (by omega) (ow_120 (by omega) _).1 (cpe_13_0 κ _) rfl rfl ?_
  refine px_aload_n dX3_findBest_5 rfl rfl ?_
  refine px_iconst (v := (-1)) dX3_findBest_6 (by decide) ?_
  refine cx_put (k := 13) (i := κ) (f := 1) (r := (120 + 10 * κ)) (j := 1) dX3_findBest_7 gX3_77 rfl (show κ < 2 by omega) (Nat.le_of_ble_eq_true rfl) (by omega) (ow_120 (by omega) _).1 (cpe_13_1 κ _) rfl rfl ?_
  refine px_aload_n dX3_findBest_10 rfl rfl ?_
  refine px_iconst (v := 0) dX3_findBest_11 (by decide) ?_
  refine cx_put (k := 13) (i := κ) (f := 2) (r := (120 + 10 * κ)) (j := 2) dX3_findBest_12 gX3_80 rfl (show κ < 2 by omega) (Nat.le_of_ble_eq_true rfl) (by omega) (ow_120 (by omega) _).1 (cpe_13_2 κ _) rfl rfl ?_
  refine px_aload_n dX3_findBest_15 rfl rfl ?_
  refine px_iload_n dX3_findBest_16 rfl rfl ?_
  refine cx_put (k := 13) (i := κ) (f := 10) (r := (120 + 10 * κ)) (j := 4) dX3_findBest_17 gX3_83 rfl (show κ < 2 by omega) (Nat.le_of_ble_eq_true rfl) (by omega) (ow_120 (by omega) _).1 (cpe_13_10 κ _) (narZ hal) (by rcases hal with e | e <;> rw [e] <;> rfl) ?_
  refine px_aload_n dX3_findBest_20 rfl rfl ?_
  refine px_iconst (v := 0) dX3_findBest_21 (by decide) ?_
  refine cx_put (k := 13) (i := κ) (f := 11) (r := (120 + 10 * κ)) (j := 5) dX3_findBest_22 gX3_87 rfl (show κ < 2 by omega) (Nat.le_of_ble_eq_true rfl) (by omega) (ow_120 (by omega) _).1 (cpe_13_11 κ _) rfl rfl ?_
  refine px_aload_n dX3_findBest_25 rfl rfl ?_
  refine cx_get (k := 13) (i := κ) (f := 5) dX3_findBest_26 gX3_15 rfl (show κ < 2 by omega) rfl ?_
  refine px_iconst (v := 0) dX3_findBest_29 (by decide) ?_
  generalize hT1 : up2 _ (120 + 10 * κ) 5 0 = T1
  have f1' : fr [120 + 10 * κ] S T1 := by rw [← hT1]; exact ((((fr.rf.up List.mem_cons_self).up List.mem_cons_self).up List.mem_cons_self).up List.mem_cons_self).up List.mem_cons_self
  have v0 : T1 (120 + 10 * κ) 0 = -1 ∧ T1 (120 + 10 * κ) 1 = -1 ∧ T1 (120 + 10 * κ) 2 = 0 ∧ T1 (120 + 10 * κ) 3 = S (120 + 10 * κ) 3 ∧ T1 (120 + 10 * κ) 4 = al ∧ T1 (120 + 10 * κ) 5 = 0 := by rw [← hT1]; simp [up2, upd]
  refine px_callSV (P := fun S' => S' = setA T1 (122 + 10 * κ) (fa_fill (fun _ => 0) (T1 (122 + 10 * κ)) 6)) dX3_findBest_30 lX3_54 (av := [.ref (Q.1 15 κ), .int 0]) rfl rfl (c_fill G m M0 Q T1 15 κ (122 + 10 * κ) 6 0 (fun _ _ => rfl) hκ (by omega) (fun _ => (ow_120 hκ _).2.2.1) (by decide)) (by decide) (Nat.le_of_ble_eq_true rfl) (fun S5 Q5 => ?_)
  have f5 : fr (scP κ) S S5 := by rw [Q5]; exact (f1'.mono (by intro q hq; unfold scP; simp only [List.mem_cons, List.not_mem_nil, or_false] at hq ⊢; omega)).tr (fr_set (by simp [scP]))
  have s5 : S5 (120 + 10 * κ) = T1 (120 + 10 * κ) := by rw [Q5]; exact setA_ne (by omega)
  have L5 : LO S5 κ U n c := hLO.go (by rw [s5]; exact v0.2.2.2.1) (f5 _ (by unfold scP; simp only [List.mem_cons, List.not_mem_nil, or_false]; omega)) (f5 _ (by unfold scP; simp only [List.mem_cons, List.not_mem_nil, or_false]; omega)) (f5 _ (by unfold scP; simp only [List.mem_cons, List.not_mem_nil, or_false]; omega)) (f5 _ (by unfold scP; simp only [List.mem_cons, List.not_mem_nil, or_false]; omega))
  have u5 : ∀ h, h < 6 → S5 (122 + 10 * κ) h = 0 := fun h hh => by rw [Q5, setA_eq, fa_fill_in hh]
  have m5 : MTC S5 κ U n c al (0 * 6 ^ 5) := ⟨by rw [s5]; exact v0.2.2.2.2.1, by rw [s5]; exact v0.1, by rw [s5]; exact v0.2.1, Or.inl ⟨by rw [s5]; exact v0.2.2.2.2.2, by rw [s5]; exact v0.2.2.1⟩⟩
  have pf5 : PF U n c (0 * 6 ^ 5) 0 := ⟨fun j hj => by omega, fun h hh => by obtain ⟨a, ha, ea⟩ := hO h hh; rw [ea]; exact nI_nz (by omega), fun q hq ht => by omega⟩
  refine px_aload_n dX3_findBest_33 rfl rfl ?_
  refine px_iconst (v := 0) dX3_findBest_34 (by decide) ?_
  refine px_iconst (v := 0) dX3_findBest_35 (by decide) ?_
  refine cx_callV2 (k := 13) (i := κ) dX3_findBest_36 lX3_90 rfl (show κ < 2 by omega) rfl (c_X3_pickFrom G m M0 Q κ n c U al hκ hn hT hO 5 S5 0 0 (by omega) (by decide) pf5 ⟨L5, u5, fun j hj => by omega, m5⟩ (by rw [s5]; exact v0.2.2.2.2.2)) (by decide) (Nat.le_of_ble_eq_true rfl) (fun S36 Q36 => ?_)
  obtain ⟨f36, L36, hu36, hd36, m36⟩ := Q36
  refine px_return dX3_findBest_39 rfl ?_
  exact ⟨f5.tr f36, L36, m36⟩
