/-! THE CLASS: public calls -/
/-- what a public call stands on -/
def CH (S : MS) (Q : Qt) (n t : Nat) : Prop := PH S Q n t ∧ S 6 0 = nI Q.2.1 ∧ Q.2.1 ≤ 8 ∧ S 60 0 = nI t ∧ S 16 0 = nI Q.2.2 ∧ OB S n
theorem in_ix {v : Int32} {n : Nat} (hn : n ≤ 100000) (H : ¬ mIn v 0 (nI n) = 0) : ∃ j : Nat, j ≤ n ∧ v = nI j ∧ v.toNatClampNeg = j := by
  obtain ⟨h1, h2⟩ := mIn_1.mp H
  rw [i_lt, show (0 : Int32).toInt = 0 from rfl] at h1
  rw [i_lt, nI_toInt' hn] at h2
  have e : v = nI v.toInt.toNat := by
    rw [i_eq, nI_toInt' (by omega)]
    omega
  exact ⟨v.toInt.toNat, by omega, e, rfl⟩
theorem frC_Z {κ t : Nat} {S T : MS} (h : fr (scC κ t) S T) : fk S T := h.fk scC_ge
set_option maxHeartbeats 4000000 in
set_option maxRecDepth 100000 in
theorem c_X11_hank (G : Gt) (m : Nat → Prop) (M0 : Nat → va_E) (Q : Qt) (S : MS) (o s v : Int32) (n t : Nat) (hCH : CH S Q n t) : PC G (CPic G m M0 Q) 3 Y11_hank [.ref (Q.1 0 0), .int o, .int s, .int v] S 0 0 (ri (fun x S' => x = (f_hank S o s v).1 ∧ S' = (f_hank S o s v).2)) := by
  obtain ⟨hPH, hC, hC8, h60, h16, hOB⟩ := hCH
  have hn1 := hPH.1
  have hn6 := hPH.2.1
  have hTX := hPH.2.2.1
  have hWB := hPH.2.2.2.1
  have hco := hPH.2.2.2.2
  have ht := hTX.2.1
  have h6 := hTX.2.2.1
  have hRU : (S 60 0).toNatClampNeg = t := by rw [h60, nI_clamp (by omega)]
  have eN := hN_eq hn1 (by omega)
  have eC := cN_eq hC (by omega)
  refine pc_of (ls := [some (.ref (Q.1 0 0)), some (.int o), some (.int s), some (.int v)]) (by decide +kernel) rfl (Nat.le_of_ble_eq_true rfl) ?_
  refine px_aload_n dX11_hank_0 rfl rfl ?_
  refine cx_get (k := 0) (i := 0) (f := 0) dX11_hank_1 gX11_10 rfl Nat.one_pos rfl ?_
  refine px_iload_n dX11_hank_4 rfl rfl ?_
  refine px_iload_n dX11_hank_5 rfl rfl ?_
  refine px_iload_n dX11_hank_6 rfl rfl ?_
  refine cx_callI3 (k := 1) (i := 0) dX11_hank_7 lX11_73 rfl Nat.one_pos rfl (c_X10_addHank G m M0 Q S o s v n hn1 hn6) (by decide) (Nat.le_of_ble_eq_true rfl) (fun x7 S7 Q7 => ?_)
  obtain ⟨rfl, e7⟩ := Q7
  obtain rfl := e7.symm
  refine px_iretI dX11_hank_10 rfl ?_
  exact ⟨rfl, rfl⟩
set_option maxHeartbeats 4000000 in
set_option maxRecDepth 100000 in
theorem c_X11_ounces (G : Gt) (m : Nat → Prop) (M0 : Nat → va_E) (Q : Qt) (S : MS) (h q : Int32) (n t : Nat) (hCH : CH S Q n t) : PC G (CPic G m M0 Q) 3 Y11_ounces [.ref (Q.1 0 0), .int h, .int q] S 0 0 (ri (fun x S' => x = (f_ounces S h q).1 ∧ S' = (f_ounces S h q).2)) := by
  obtain ⟨hPH, hC, hC8, h60, h16, hOB⟩ := hCH
  have hn1 := hPH.1
  have hn6 := hPH.2.1
  have hTX := hPH.2.2.1
  have hWB := hPH.2.2.2.1
  have hco := hPH.2.2.2.2
  have ht := hTX.2.1
  have h6 := hTX.2.2.1
  have hRU : (S 60 0).toNatClampNeg = t := by rw [h60, nI_clamp (by omega)]
  have eN := hN_eq hn1 (by omega)
  have eC := cN_eq hC (by omega)
  refine pc_of (ls := [some (.ref (Q.1 0 0)), some (.int h), some (.int q), none]) (by decide +kernel) rfl (Nat.le_of_ble_eq_true rfl) ?_
  refine px_aload_n dX11_ounces_0 rfl rfl ?_
  refine cx_get (k := 0) (i := 0) (f := 0) dX11_ounces_1 gX11_10 rfl Nat.one_pos rfl ?_
  refine px_iload_n dX11_ounces_4 rfl rfl ?_
  refine cx_callI1 (k := 1) (i := 0) dX11_ounces_5 lX11_77 rfl Nat.one_pos rfl (c_X10_has G m M0 Q S _) (by decide) (Nat.le_of_ble_eq_true rfl) (fun x5 S5 Q5 => ?_)
  obtain ⟨rfl, e5⟩ := Q5
  obtain rfl := e5.symm
  refine px_if_eq (tgt := 21) dX11_ounces_8 (by decide) (fun H8 => ?_) (fun H8 => ?_)
  · skip
    refine px_bipush (v := (-2)) dX11_ounces_21 (by decide) ?_
    refine px_iretI dX11_ounces_23 rfl ?_
    exact ⟨by simp [f_ounces, *], Eq.symm (by simp [f_ounces, *])⟩
  · skip
    refine px_iload_n dX11_ounces_11 rfl rfl ?_
    refine px_iconst (v := 0) dX11_ounces_12 (by decide) ?_
    refine px_bipush (v := 99) dX11_ounces_13 (by decide) ?_
    refine px_pure3 dX11_ounces_15 lX11_81 (c_X11_isWithin G _ _ _) (by decide) (Nat.le_of_ble_eq_true rfl) ?_
    refine px_if_ne (tgt := 24) dX11_ounces_18 (by decide) (fun H18 => ?_) (fun H18 => ?_)
    · skip
      obtain ⟨j, hj, ej, tj⟩ := hk_ix hn1 hn6 H8
      subst ej
      refine px_aload_n dX11_ounces_24 rfl rfl ?_
      refine cx_get (k := 0) (i := 0) (f := 0) dX11_ounces_25 gX11_10 rfl Nat.one_pos rfl ?_
      refine cx_get (k := 1) (i := 0) (f := 0) dX11_ounces_28 gX11_85 rfl Nat.one_pos rfl ?_
      refine px_iload_n dX11_ounces_31 rfl rfl ?_
      refine cx_iald (k := 2) (i := 0) (r := 2) (j) dX11_ounces_32 rfl Nat.one_pos rfl (by omega) (by decide) ?_
      refine px_istore_n3 dX11_ounces_33 (by decide) rfl ?_
      refine px_aload_n dX11_ounces_34 rfl rfl ?_
      refine cx_get (k := 0) (i := 0) (f := 0) dX11_ounces_35 gX11_10 rfl Nat.one_pos rfl ?_
      refine cx_get (k := 1) (i := 0) (f := 0) dX11_ounces_38 gX11_85 rfl Nat.one_pos rfl ?_
      refine px_iload_n dX11_ounces_41 rfl rfl ?_
      refine px_iload_n dX11_ounces_42 rfl rfl ?_
      refine cx_iast (k := 2) (i := 0) (r := 2) (j) dX11_ounces_43 (fun _ _ => rfl) Nat.one_pos (by decide) rfl rfl (by omega) (by decide) ?_
      refine px_iload_n dX11_ounces_44 rfl rfl ?_
      refine px_iretI dX11_ounces_45 rfl ?_
      exact ⟨by simp [f_ounces, *], Eq.symm (by simp [f_ounces, *])⟩
    · skip
      refine px_bipush (v := (-2)) dX11_ounces_21 (by decide) ?_
      refine px_iretI dX11_ounces_23 rfl ?_
      exact ⟨by simp [f_ounces, *], Eq.symm (by simp [f_ounces, *])⟩
set_option maxHeartbeats 4000000 in
set_option maxRecDepth 100000 in
theorem c_X11_fade (G : Gt) (m : Nat → Prop) (M0 : Nat → va_E) (Q : Qt) (S : MS) (v q : Int32) (n t : Nat) (hCH : CH S Q n t) : PC G (CPic G m M0 Q) 3 Y11_fade [.ref (Q.1 0 0), .int v, .int q] S 0 0 (ri (fun x S' => x = (f_fade S v q).1 ∧ S' = (f_fade S v q).2)) := by
  obtain ⟨hPH, hC, hC8, h60, h16, hOB⟩ := hCH
  have hn1 := hPH.1
  have hn6 := hPH.2.1
  have hTX := hPH.2.2.1
  have hWB := hPH.2.2.2.1
  have hco := hPH.2.2.2.2
  have ht := hTX.2.1
  have h6 := hTX.2.2.1
  have hRU : (S 60 0).toNatClampNeg = t := by rw [h60, nI_clamp (by omega)]
  have eN := hN_eq hn1 (by omega)
  have eC := cN_eq hC (by omega)
  refine pc_of (ls := [some (.ref (Q.1 0 0)), some (.int v), some (.int q), none]) (by decide +kernel) rfl (Nat.le_of_ble_eq_true rfl) ?_
  refine px_iload_n dX11_fade_0 rfl rfl ?_
  refine px_iconst (v := 0) dX11_fade_1 (by decide) ?_
  refine px_bipush (v := 8) dX11_fade_2 (by decide) ?_
  refine px_pure3 dX11_fade_4 lX11_81 (c_X11_isWithin G _ _ _) (by decide) (Nat.le_of_ble_eq_true rfl) ?_
  refine px_if_eq (tgt := 20) dX11_fade_7 (by decide) (fun H7 => ?_) (fun H7 => ?_)
  · skip
    refine px_bipush (v := (-2)) dX11_fade_20 (by decide) ?_
    refine px_iretI dX11_fade_22 rfl ?_
    exact ⟨by simp [f_fade, *], Eq.symm (by simp [f_fade, *])⟩
  · skip
    refine px_iload_n dX11_fade_10 rfl rfl ?_
    refine px_iconst (v := 0) dX11_fade_11 (by decide) ?_
    refine px_bipush (v := 50) dX11_fade_12 (by decide) ?_
    refine px_pure3 dX11_fade_14 lX11_81 (c_X11_isWithin G _ _ _) (by decide) (Nat.le_of_ble_eq_true rfl) ?_
    refine px_if_ne (tgt := 23) dX11_fade_17 (by decide) (fun H17 => ?_) (fun H17 => ?_)
    · skip
      obtain ⟨j, hj, ej, tj⟩ := in_ix (n := 8) (by omega) H7
      subst ej
      refine px_aload_n dX11_fade_23 rfl rfl ?_
      refine cx_get (k := 0) (i := 0) (f := 0) dX11_fade_24 gX11_10 rfl Nat.one_pos rfl ?_
      refine cx_get (k := 1) (i := 0) (f := 3) dX11_fade_27 gX11_88 rfl Nat.one_pos rfl ?_
      refine px_iload_n dX11_fade_30 rfl rfl ?_
      refine cx_iald (k := 5) (i := 0) (r := 5) (j) dX11_fade_31 rfl Nat.one_pos rfl (by omega) (by decide) ?_
      refine px_istore_n3 dX11_fade_32 (by decide) rfl ?_
      refine px_aload_n dX11_fade_33 rfl rfl ?_
      refine cx_get (k := 0) (i := 0) (f := 0) dX11_fade_34 gX11_10 rfl Nat.one_pos rfl ?_
      refine cx_get (k := 1) (i := 0) (f := 3) dX11_fade_37 gX11_88 rfl Nat.one_pos rfl ?_
      refine px_iload_n dX11_fade_40 rfl rfl ?_
      refine px_iload_n dX11_fade_41 rfl rfl ?_
      refine cx_iast (k := 5) (i := 0) (r := 5) (j) dX11_fade_42 (fun _ _ => rfl) Nat.one_pos (by decide) rfl rfl (by omega) (by decide) ?_
      refine px_iload_n dX11_fade_43 rfl rfl ?_
      refine px_iretI dX11_fade_44 rfl ?_
      exact ⟨by simp [f_fade, *], Eq.symm (by simp [f_fade, *])⟩
    · skip
      refine px_bipush (v := (-2)) dX11_fade_20 (by decide) ?_
      refine px_iretI dX11_fade_22 rfl ?_
      exact ⟨by simp [f_fade, *], Eq.symm (by simp [f_fade, *])⟩
set_option maxHeartbeats 4000000 in
set_option maxRecDepth 100000 in
theorem c_X11_coatAt (G : Gt) (m : Nat → Prop) (M0 : Nat → va_E) (Q : Qt) (S : MS) (c : Int32) (hC : S 6 0 = nI Q.2.1) (hC8 : Q.2.1 ≤ 8) : PC G (CPic G m M0 Q) 2 Y11_coatAt [.ref (Q.1 0 0), .int c] S 0 0 (rr (fun x S' => ((mCt S c = 0 ∧ x = .null) ∨ (¬ mCt S c = 0 ∧ ∃ k, k < Q.2.1 ∧ c = nI k ∧ x = .ref (Q.1 33 k))) ∧ S' = S)) := by
  refine pc_of (ls := [some (.ref (Q.1 0 0)), some (.int c)]) (by decide +kernel) rfl (Nat.le_of_ble_eq_true rfl) ?_
  refine px_iload_n dX11_coatAt_0 rfl rfl ?_
  refine px_iconst (v := 0) dX11_coatAt_1 (by decide) ?_
  refine px_aload_n dX11_coatAt_2 rfl rfl ?_
  refine cx_get (k := 0) (i := 0) (f := 2) dX11_coatAt_3 gX11_91 rfl Nat.one_pos rfl ?_
  refine px_iconst (v := 1) dX11_coatAt_6 (by decide) ?_
  refine px_isub dX11_coatAt_7 ?_
  refine px_pure3 dX11_coatAt_8 lX11_81 (c_X11_isWithin G _ _ _) (by decide) (Nat.le_of_ble_eq_true rfl) ?_
  refine px_if_eq (tgt := 23) dX11_coatAt_11 (by decide) (fun H11 => ?_) (fun H11 => ?_)
  · skip
    have hct : mCt S c = 0 := H11
    refine px_null dX11_coatAt_23 ?_
    refine px_areturn dX11_coatAt_24 rfl (Or.inl ⟨_, rfl⟩) (by first | exact Or.inl rfl | exact Or.inr ⟨_, rfl⟩) ?_
    first | exact ⟨Or.inl ⟨hct, rfl⟩, rfl⟩ | exact ⟨Or.inr ⟨hct, j, hj, rfl, rfl⟩, rfl⟩
  · skip
    have hct : ¬ mCt S c = 0 := H11
    obtain ⟨j, hj, ej, tj⟩ := ct_ix hC hC8 hct
    subst ej
    refine px_aload_n dX11_coatAt_14 rfl rfl ?_
    refine cx_get (k := 0) (i := 0) (f := 1) dX11_coatAt_15 gX11_18 rfl Nat.one_pos rfl ?_
    refine px_iload_n dX11_coatAt_18 rfl rfl ?_
    refine cx_aald (k := 8) (i := 0) (j) dX11_coatAt_19 rfl Nat.one_pos rfl rfl rfl (by omega) (by decide) (cr_pos hj) ?_
    refine px_goto (tgt := 24) dX11_coatAt_20 (by decide) ?_
    refine px_areturn dX11_coatAt_24 rfl (Or.inl ⟨_, rfl⟩) (by first | exact Or.inl rfl | exact Or.inr ⟨_, rfl⟩) ?_
    first | exact ⟨Or.inl ⟨hct, rfl⟩, rfl⟩ | exact ⟨Or.inr ⟨hct, j, hj, rfl, rfl⟩, rfl⟩
theorem told_q {w : Int32} (H : ¬ mIn w 20 25 = 0) : ∃ q : Nat, q < 6 ∧ w - 20 = nI q := by
  obtain ⟨h1, h2⟩ := mIn_1.mp H
  rw [i_lt, show (20 : Int32).toInt = 20 from rfl] at h1
  rw [i_lt, show (25 : Int32).toInt = 25 from rfl] at h2
  have e : (w - 20).toInt = w.toInt - 20 := fb_subI (by rw [show (20 : Int32).toInt = 20 from rfl]; omega) (by rw [show (20 : Int32).toInt = 20 from rfl]; omega)
  refine ⟨(w.toInt - 20).toNat, by omega, ?_⟩
  rw [i_eq, e, nI_toInt' (by omega)]
  omega
set_option maxHeartbeats 4000000 in
set_option maxRecDepth 100000 in
theorem c_X11_told (G : Gt) (m : Nat → Prop) (M0 : Nat → va_E) (Q : Qt) (S : MS) (c w : Int32) (n t : Nat) (hCH : CH S Q n t) : PC G (CPic G m M0 Q) 5 Y11_told [.ref (Q.1 0 0), .int c, .int w] S 0 0 (ri (fun x S' => x = f_told S c w ∧ fr [80 + t, 90 + t] S S')) := by
  obtain ⟨hPH, hC, hC8, h60, h16, hOB⟩ := hCH
  have hn1 := hPH.1
  have hn6 := hPH.2.1
  have hTX := hPH.2.2.1
  have hWB := hPH.2.2.2.1
  have hco := hPH.2.2.2.2
  have ht := hTX.2.1
  have h6 := hTX.2.2.1
  have hRU : (S 60 0).toNatClampNeg = t := by rw [h60, nI_clamp (by omega)]
  have eN := hN_eq hn1 (by omega)
  have eC := cN_eq hC (by omega)
  refine pc_of (ls := [some (.ref (Q.1 0 0)), some (.int c), some (.int w), none]) (by decide +kernel) rfl (Nat.le_of_ble_eq_true rfl) ?_
  refine px_aload_n dX11_told_0 rfl rfl ?_
  refine px_iload_n dX11_told_1 rfl rfl ?_
  refine cx_callR1 (k := 0) (i := 0) dX11_told_2 lX11_98 rfl Nat.one_pos rfl (c_X11_coatAt G m M0 Q S c hC hC8) (by decide) (Nat.le_of_ble_eq_true rfl) (fun x2 S2 Q2 => ?_)
  obtain ⟨hx2, e2⟩ := Q2
  obtain rfl := e2.symm
  rcases hx2 with ⟨hct, rfl⟩ | ⟨hct, k, hk, ek, rfl⟩
  · skip
    refine px_astoreN_n3 dX11_told_5 (by decide) rfl ?_
    refine px_aload_nN dX11_told_6 rfl rfl ?_
    refine px_ifnonnullN dX11_told_7 ?_
    refine px_bipush (v := (-5)) dX11_told_10 (by decide) ?_
    refine px_iretI dX11_told_12 rfl ?_
    first | (exact ⟨by simp [f_told, *], fr.rf⟩) | (exact ⟨by rw [f_told, if_neg hct, if_neg (fun e => e H21), if_pos H41, tk, eq9], f53⟩) | (exact ⟨by simp [f_told, *], f130⟩)
  · skip
    subst ek
    have tk : (nI k).toNatClampNeg = k := nI_clamp (by omega)
    have hKO := (hco k hk).1
    have hTK := (hco k hk).2
    refine px_astore_n3 dX11_told_5 (by decide) rfl ?_
    refine px_aload_n dX11_told_6 rfl rfl ?_
    refine px_ifnonnull (tgt := 13) dX11_told_7 (by decide) ?_
    refine px_iload_n dX11_told_13 rfl rfl ?_
    refine px_bipush (v := 10) dX11_told_14 (by decide) ?_
    refine px_bipush (v := 14) dX11_told_16 (by decide) ?_
    refine px_pure3 dX11_told_18 lX11_81 (c_X11_isWithin G _ _ _) (by decide) (Nat.le_of_ble_eq_true rfl) ?_
    refine px_if_eq (tgt := 33) dX11_told_21 (by decide) (fun H21 => ?_) (fun H21 => ?_)
    · skip
      refine px_iload_n dX11_told_33 rfl rfl ?_
      refine px_bipush (v := 20) dX11_told_34 (by decide) ?_
      refine px_bipush (v := 25) dX11_told_36 (by decide) ?_
      refine px_pure3 dX11_told_38 lX11_81 (c_X11_isWithin G _ _ _) (by decide) (Nat.le_of_ble_eq_true rfl) ?_
      refine px_if_eq (tgt := 57) dX11_told_41 (by decide) (fun H41 => ?_) (fun H41 => ?_)
      · skip
        refine px_iload_n dX11_told_57 rfl rfl ?_
        rcases sw_0_6 (w) with H58 | H58 | H58 | H58 | H58 | H58 | H58 | H58
        · refine px_tableIn (off := 42) (tgt := 100) dX11_told_58 (by rw [H58]; decide) (by rw [H58]; decide) (by rw [H58]; rfl) (by decide) ?_
          subst H58
          refine px_aload_n dX11_told_100 rfl rfl ?_
          refine cx_get (k := 33) (i := k) (f := 0) dX11_told_101 (gk_X11_110 _) rfl (show k < Q.2.1 by omega) rfl ?_
          refine px_iretI dX11_told_104 rfl ?_
          first | (exact ⟨by simp [f_told, *], fr.rf⟩) | (exact ⟨by rw [f_told, if_neg hct, if_neg (fun e => e H21), if_pos H41, tk, eq9], f53⟩) | (exact ⟨by simp [f_told, *], f130⟩)
        · refine px_tableIn (off := 47) (tgt := 105) dX11_told_58 (by rw [H58]; decide) (by rw [H58]; decide) (by rw [H58]; rfl) (by decide) ?_
          subst H58
          refine px_aload_n dX11_told_105 rfl rfl ?_
          refine cx_get (k := 33) (i := k) (f := 1) dX11_told_106 (gk_X11_113 _) rfl (show k < Q.2.1 by omega) rfl ?_
          refine px_iretI dX11_told_109 rfl ?_
          first | (exact ⟨by simp [f_told, *], fr.rf⟩) | (exact ⟨by rw [f_told, if_neg hct, if_neg (fun e => e H21), if_pos H41, tk, eq9], f53⟩) | (exact ⟨by simp [f_told, *], f130⟩)
        · refine px_tableIn (off := 52) (tgt := 110) dX11_told_58 (by rw [H58]; decide) (by rw [H58]; decide) (by rw [H58]; rfl) (by decide) ?_
          subst H58
          refine px_aload_n dX11_told_110 rfl rfl ?_
          refine cx_get (k := 33) (i := k) (f := 2) dX11_told_111 (gk_X11_116 _) rfl (show k < Q.2.1 by omega) rfl ?_
          refine px_iretI dX11_told_114 rfl ?_
          first | (exact ⟨by simp [f_told, *], fr.rf⟩) | (exact ⟨by rw [f_told, if_neg hct, if_neg (fun e => e H21), if_pos H41, tk, eq9], f53⟩) | (exact ⟨by simp [f_told, *], f130⟩)
        · refine px_tableIn (off := 57) (tgt := 115) dX11_told_58 (by rw [H58]; decide) (by rw [H58]; decide) (by rw [H58]; rfl) (by decide) ?_
          subst H58
          refine px_aload_n dX11_told_115 rfl rfl ?_
          refine cx_callOI0 (k := 33) (i := k) dX11_told_116 (ko_X11_119 _) rfl (show k < Q.2.1 by omega) (vk_cl _) (c_bringsV G m M0 Q S k hk hKO) (by decide) (Nat.le_of_ble_eq_true rfl) (fun x116 S116 Q116 => ?_)
          obtain ⟨rfl, e116⟩ := Q116
          obtain rfl := e116.symm
          refine px_iretI dX11_told_119 rfl ?_
          first | (exact ⟨by simp [f_told, *], fr.rf⟩) | (exact ⟨by rw [f_told, if_neg hct, if_neg (fun e => e H21), if_pos H41, tk, eq9], f53⟩) | (exact ⟨by simp [f_told, *], f130⟩)
        · refine px_tableIn (off := 62) (tgt := 120) dX11_told_58 (by rw [H58]; decide) (by rw [H58]; decide) (by rw [H58]; rfl) (by decide) ?_
          subst H58
          refine px_aload_n dX11_told_120 rfl rfl ?_
          refine cx_callOI0 (k := 33) (i := k) dX11_told_121 (ko_X11_123 _) rfl (show k < Q.2.1 by omega) (vk_cl _) (c_X2_takesInAll G m M0 Q S k hk hKO) (by decide) (Nat.le_of_ble_eq_true rfl) (fun x121 S121 Q121 => ?_)
          obtain ⟨rfl, e121⟩ := Q121
          obtain rfl := e121.symm
          refine px_iretI dX11_told_124 rfl ?_
          first | (exact ⟨by simp [f_told, *], fr.rf⟩) | (exact ⟨by rw [f_told, if_neg hct, if_neg (fun e => e H21), if_pos H41, tk, eq9], f53⟩) | (exact ⟨by simp [f_told, *], f130⟩)
        · refine px_tableIn (off := 67) (tgt := 125) dX11_told_58 (by rw [H58]; decide) (by rw [H58]; decide) (by rw [H58]; rfl) (by decide) ?_
          subst H58
          refine px_aload_n dX11_told_125 rfl rfl ?_
          refine cx_get (k := 0) (i := 0) (f := 6) dX11_told_126 gX11_65 rfl Nat.one_pos rfl ?_
          rw [hRU]
          refine px_aload_n dX11_told_129 rfl rfl ?_
          refine cx_callI1 (k := 28) (i := t) dX11_told_130 lX11_126 rfl (show t < Q.2.2 by omega) rfl (c_X9_keepBy G m M0 Q S t k hTX hk hKO) (by decide) (Nat.le_of_ble_eq_true rfl) (fun x130 S130 Q130 => ?_)
          obtain ⟨rfl, f130⟩ := Q130
          refine px_iretI dX11_told_133 rfl ?_
          first | (exact ⟨by simp [f_told, *], fr.rf⟩) | (exact ⟨by rw [f_told, if_neg hct, if_neg (fun e => e H21), if_pos H41, tk, eq9], f53⟩) | (exact ⟨by simp [f_told, *], f130⟩)
        · refine px_tableIn (off := 76) (tgt := 134) dX11_told_58 (by rw [H58]; decide) (by rw [H58]; decide) (by rw [H58]; rfl) (by decide) ?_
          subst H58
          refine px_aload_n dX11_told_134 rfl rfl ?_
          refine cx_get (k := 33) (i := k) (f := 4) dX11_told_135 (gk_X11_130 _) rfl (show k < Q.2.1 by omega) rfl ?_
          refine px_if_eq (tgt := 145) dX11_told_138 (by decide) (fun H138 => ?_) (fun H138 => ?_)
          · skip
            refine px_iconst (v := 0) dX11_told_145 (by decide) ?_
            refine px_iretI dX11_told_146 rfl ?_
            first | (exact ⟨by simp [f_told, *], fr.rf⟩) | (exact ⟨by rw [f_told, if_neg hct, if_neg (fun e => e H21), if_pos H41, tk, eq9], f53⟩) | (exact ⟨by simp [f_told, *], f130⟩)
          · skip
            refine px_iconst (v := 1) dX11_told_141 (by decide) ?_
            refine px_goto (tgt := 146) dX11_told_142 (by decide) ?_
            refine px_iretI dX11_told_146 rfl ?_
            first | (exact ⟨by simp [f_told, *], fr.rf⟩) | (exact ⟨by rw [f_told, if_neg hct, if_neg (fun e => e H21), if_pos H41, tk, eq9], f53⟩) | (exact ⟨by simp [f_told, *], f130⟩)
        · refine px_tableOut (tgt := 147) dX11_told_58 H58 (by decide) ?_
          have N58_0 : ¬ w = 0 := by intro e9; rw [e9] at H58; revert H58; decide
          have N58_1 : ¬ w = 1 := by intro e9; rw [e9] at H58; revert H58; decide
          have N58_2 : ¬ w = 2 := by intro e9; rw [e9] at H58; revert H58; decide
          have N58_3 : ¬ w = 3 := by intro e9; rw [e9] at H58; revert H58; decide
          have N58_4 : ¬ w = 4 := by intro e9; rw [e9] at H58; revert H58; decide
          have N58_5 : ¬ w = 5 := by intro e9; rw [e9] at H58; revert H58; decide
          have N58_6 : ¬ w = 6 := by intro e9; rw [e9] at H58; revert H58; decide
          refine px_bipush (v := (-5)) dX11_told_147 (by decide) ?_
          refine px_iretI dX11_told_149 rfl ?_
          first | (exact ⟨by simp [f_told, *], fr.rf⟩) | (exact ⟨by rw [f_told, if_neg hct, if_neg (fun e => e H21), if_pos H41, tk, eq9], f53⟩) | (exact ⟨by simp [f_told, *], f130⟩)
      · skip
        refine px_aload_n dX11_told_44 rfl rfl ?_
        refine cx_get (k := 0) (i := 0) (f := 6) dX11_told_45 gX11_65 rfl Nat.one_pos rfl ?_
        rw [hRU]
        refine px_aload_n dX11_told_48 rfl rfl ?_
        refine px_iload_n dX11_told_49 rfl rfl ?_
        refine px_bipush (v := 20) dX11_told_50 (by decide) ?_
        refine px_isub dX11_told_52 ?_
        obtain ⟨q, hq, eq9⟩ : ∃ q : Nat, q < 6 ∧ w - 20 = nI q := told_q H41
        rw [eq9]
        refine cx_callI2 (k := 28) (i := t) dX11_told_53 lX11_106 rfl (show t < Q.2.2 by omega) rfl (c_X9_bearsInAll G m M0 Q S t k q hTX hk hKO hq) (by decide) (Nat.le_of_ble_eq_true rfl) (fun x53 S53 Q53 => ?_)
        obtain ⟨rfl, f53⟩ := Q53
        refine px_iretI dX11_told_56 rfl ?_
        first | (exact ⟨by simp [f_told, *], fr.rf⟩) | (exact ⟨by rw [f_told, if_neg hct, if_neg (fun e => e H21), if_pos H41, tk, eq9], f53⟩) | (exact ⟨by simp [f_told, *], f130⟩)
    · skip
      refine px_aload_n dX11_told_24 rfl rfl ?_
      refine px_iload_n dX11_told_25 rfl rfl ?_
      refine px_bipush (v := 10) dX11_told_26 (by decide) ?_
      refine px_isub dX11_told_28 ?_
      refine cx_callOI1 (k := 33) (i := k) dX11_told_29 (ko_X11_102 _) rfl (show k < Q.2.1 by omega) (vk_cl _) (c_takesV G m M0 Q S k _ hk hKO) (by decide) (Nat.le_of_ble_eq_true rfl) (fun x29 S29 Q29 => ?_)
      obtain ⟨rfl, e29⟩ := Q29
      obtain rfl := e29.symm
      refine px_iretI dX11_told_32 rfl ?_
      first | (exact ⟨by simp [f_told, *], fr.rf⟩) | (exact ⟨by rw [f_told, if_neg hct, if_neg (fun e => e H21), if_pos H41, tk, eq9], f53⟩) | (exact ⟨by simp [f_told, *], f130⟩)
  -- end
set_option maxHeartbeats 4000000 in
set_option maxRecDepth 100000 in
theorem c_X11_hankTold (G : Gt) (m : Nat → Prop) (M0 : Nat → va_E) (Q : Qt) (S : MS) (h w : Int32) (n t : Nat) (hCH : CH S Q n t) : PC G (CPic G m M0 Q) 3 Y11_hankTold [.ref (Q.1 0 0), .int h, .int w] S 0 0 (ri (fun x S' => x = f_hankTold S h w ∧ S' = S)) := by
  obtain ⟨hPH, hC, hC8, h60, h16, hOB⟩ := hCH
  have hn1 := hPH.1
  have hn6 := hPH.2.1
  have hTX := hPH.2.2.1
  have hWB := hPH.2.2.2.1
  have hco := hPH.2.2.2.2
  have ht := hTX.2.1
  have h6 := hTX.2.2.1
  have hRU : (S 60 0).toNatClampNeg = t := by rw [h60, nI_clamp (by omega)]
  have eN := hN_eq hn1 (by omega)
  have eC := cN_eq hC (by omega)
  refine pc_of (ls := [some (.ref (Q.1 0 0)), some (.int h), some (.int w)]) (by decide +kernel) rfl (Nat.le_of_ble_eq_true rfl) ?_
  refine px_aload_n dX11_hankTold_0 rfl rfl ?_
  refine cx_get (k := 0) (i := 0) (f := 0) dX11_hankTold_1 gX11_10 rfl Nat.one_pos rfl ?_
  refine px_iload_n dX11_hankTold_4 rfl rfl ?_
  refine cx_callI1 (k := 1) (i := 0) dX11_hankTold_5 lX11_77 rfl Nat.one_pos rfl (c_X10_has G m M0 Q S _) (by decide) (Nat.le_of_ble_eq_true rfl) (fun x5 S5 Q5 => ?_)
  obtain ⟨rfl, e5⟩ := Q5
  obtain rfl := e5.symm
  refine px_if_ne (tgt := 14) dX11_hankTold_8 (by decide) (fun H8 => ?_) (fun H8 => ?_)
  · skip
    obtain ⟨j, hj, ej, tj⟩ := hk_ix hn1 hn6 H8
    subst ej
    refine px_iload_n dX11_hankTold_14 rfl rfl ?_
    rcases sw_0_2 (w) with H15 | H15 | H15 | H15
    · refine px_tableIn (off := 25) (tgt := 40) dX11_hankTold_15 (by rw [H15]; decide) (by rw [H15]; decide) (by rw [H15]; rfl) (by decide) ?_
      subst H15
      refine px_aload_n dX11_hankTold_40 rfl rfl ?_
      refine cx_get (k := 0) (i := 0) (f := 0) dX11_hankTold_41 gX11_10 rfl Nat.one_pos rfl ?_
      refine cx_get (k := 1) (i := 0) (f := 0) dX11_hankTold_44 gX11_85 rfl Nat.one_pos rfl ?_
      refine px_iload_n dX11_hankTold_47 rfl rfl ?_
      refine cx_iald (k := 2) (i := 0) (r := 2) (j) dX11_hankTold_48 rfl Nat.one_pos rfl (by omega) (by decide) ?_
      refine px_iretI dX11_hankTold_49 rfl ?_
      exact ⟨by simp [f_hankTold, *], rfl⟩
    · refine px_tableIn (off := 35) (tgt := 50) dX11_hankTold_15 (by rw [H15]; decide) (by rw [H15]; decide) (by rw [H15]; rfl) (by decide) ?_
      subst H15
      refine px_aload_n dX11_hankTold_50 rfl rfl ?_
      refine cx_get (k := 0) (i := 0) (f := 0) dX11_hankTold_51 gX11_10 rfl Nat.one_pos rfl ?_
      refine px_iload_n dX11_hankTold_54 rfl rfl ?_
      refine cx_callI1 (k := 1) (i := 0) dX11_hankTold_55 lX11_134 rfl Nat.one_pos rfl (c_X10_fadedShade G m M0 Q S j (by omega) hWB) (by decide) (Nat.le_of_ble_eq_true rfl) (fun x55 S55 Q55 => ?_)
      obtain ⟨rfl, e55⟩ := Q55
      obtain rfl := e55.symm
      refine px_iretI dX11_hankTold_58 rfl ?_
      exact ⟨by simp [f_hankTold, *], rfl⟩
    · refine px_tableIn (off := 44) (tgt := 59) dX11_hankTold_15 (by rw [H15]; decide) (by rw [H15]; decide) (by rw [H15]; rfl) (by decide) ?_
      subst H15
      refine px_aload_n dX11_hankTold_59 rfl rfl ?_
      refine cx_get (k := 0) (i := 0) (f := 0) dX11_hankTold_60 gX11_10 rfl Nat.one_pos rfl ?_
      refine cx_get (k := 1) (i := 0) (f := 2) dX11_hankTold_63 gX11_137 rfl Nat.one_pos rfl ?_
      refine px_iload_n dX11_hankTold_66 rfl rfl ?_
      refine cx_iald (k := 4) (i := 0) (r := 4) (j) dX11_hankTold_67 rfl Nat.one_pos rfl (by omega) (by decide) ?_
      refine px_iretI dX11_hankTold_68 rfl ?_
      exact ⟨by simp [f_hankTold, *], rfl⟩
    · refine px_tableOut (tgt := 69) dX11_hankTold_15 H15 (by decide) ?_
      have N15_0 : ¬ w = 0 := by intro e9; rw [e9] at H15; revert H15; decide
      have N15_1 : ¬ w = 1 := by intro e9; rw [e9] at H15; revert H15; decide
      have N15_2 : ¬ w = 2 := by intro e9; rw [e9] at H15; revert H15; decide
      refine px_bipush (v := (-5)) dX11_hankTold_69 (by decide) ?_
      refine px_iretI dX11_hankTold_71 rfl ?_
      exact ⟨by simp [f_hankTold, *], rfl⟩
  · skip
    refine px_bipush (v := (-5)) dX11_hankTold_11 (by decide) ?_
    refine px_iretI dX11_hankTold_13 rfl ?_
    exact ⟨by simp [f_hankTold, *], rfl⟩
section CXp
variable {G : Gt} {m : Nat → Prop} {M0 : Nat → va_E} {Q : Qt} {d : Nat} {Y : Yt} {pc : Nat} {ls : List (Option Value)} {st : List Value} {S : MS} {mc ms : Nat} {Post : Option Value → MS → Prop}
theorem cx_putRule {index j : Nat} {ty : FieldType} (hd : decode Y.2.1 pc = .ok (.putfield index, 3)) (hg : GF Y.1.cls index 11 6 ty false) (hj : j ≤ 100000) (hnv : narrow ty (.ref (Q.1 28 j)) = .ref (Q.1 28 j)) (hfit : fits ty (.ref (Q.1 28 j)) = true) (kk : PX G (CPic G m M0 Q) d Y (pc + 3) ls st (up2 S 60 0 (nI j)) mc ms Post) : PX G (CPic G m M0 Q) d Y pc ls (.ref (Q.1 28 j) :: .ref (Q.1 0 0) :: st) S mc ms Post :=
  fun h hp => ax_put hd hg (hp.1 0 0 Nat.one_pos).1 (hp.1 0 0 Nat.one_pos).2.1 ((hp.2.2.1 0 0 Nat.one_pos).trans rfl) (Nat.le_of_ble_eq_true rfl) hnv hfit (kk _ (hp.up Nat.one_pos (by decide) rfl (by
    show (.inr (11, [_, _, _, _, _, _, .ref (Q.1 28 (up2 S 60 0 (nI j) 60 0).toNatClampNeg), _, _, _, _, _, _, _, _, _]) : va_E) = _
    rw [show up2 S 60 0 (nI j) 60 0 = nI j from by simp [up2, upd], nI_clamp (by omega)]
    rfl)))
end CXp
set_option maxHeartbeats 4000000 in
set_option maxRecDepth 100000 in
theorem c_X11_useRule (G : Gt) (m : Nat → Prop) (M0 : Nat → va_E) (Q : Qt) (S : MS) (j : Nat) (h16 : S 16 0 = nI Q.2.2) (hj : j < Q.2.2) (h6 : Q.2.2 ≤ 6) : PC G (CPic G m M0 Q) 2 Y11_useRule [.ref (Q.1 0 0), .int (nI j)] S 0 0 (rv (fun S' => S' = up2 (up2 S 60 0 (nI j)) 17 0 (nI j))) := by
  refine pc_of (ls := [some (.ref (Q.1 0 0)), some (.int (nI j)), none]) (by decide +kernel) rfl (Nat.le_of_ble_eq_true rfl) ?_
  refine px_iload_n dX11_useRule_0 rfl rfl ?_
  refine px_iconst (v := 0) dX11_useRule_1 (by decide) ?_
  refine px_aload_n dX11_useRule_2 rfl rfl ?_
  refine cx_get (k := 0) (i := 0) (f := 5) dX11_useRule_3 gX11_69 rfl Nat.one_pos rfl ?_
  refine px_iconst (v := 1) dX11_useRule_6 (by decide) ?_
  refine px_isub dX11_useRule_7 ?_
  refine px_pure3 dX11_useRule_8 lX11_81 (c_X11_isWithin G _ _ _) (by decide) (Nat.le_of_ble_eq_true rfl) ?_
  refine px_if_eq (tgt := 23) dX11_useRule_11 (by decide) (fun H11 => ?_) (fun H11 => ?_)
  · skip
    exact absurd H11 (mIn_1.mpr ⟨nI_nneg (by omega), fun q => by rw [h16, nIs (by omega)] at q; have := lt_n (by omega) (by omega) q; omega⟩)
  · skip
    refine px_aload_n dX11_useRule_14 rfl rfl ?_
    refine cx_get (k := 0) (i := 0) (f := 4) dX11_useRule_15 gX11_31 rfl Nat.one_pos rfl ?_
    refine px_iload_n dX11_useRule_18 rfl rfl ?_
    refine cx_aald (k := 12) (i := 0) (j) dX11_useRule_19 rfl Nat.one_pos rfl rfl rfl (by omega) (by decide) (cr_pos hj) ?_
    refine px_goto (tgt := 24) dX11_useRule_20 (by decide) ?_
    refine px_astore_n2 dX11_useRule_24 (by decide) rfl ?_
    refine px_aload_n dX11_useRule_25 rfl rfl ?_
    refine px_ifnull dX11_useRule_26 ?_
    refine px_aload_n dX11_useRule_29 rfl rfl ?_
    refine px_aload_n dX11_useRule_30 rfl rfl ?_
    refine cx_putRule dX11_useRule_31 gX11_65 (by omega) rfl rfl ?_
    refine px_aload_n dX11_useRule_34 rfl rfl ?_
    refine px_iload_n dX11_useRule_35 rfl rfl ?_
    refine cx_put (k := 0) (i := 0) (f := 7) (r := 17) (j := 0) dX11_useRule_36 gX11_153 rfl Nat.one_pos (Nat.le_of_ble_eq_true rfl) (by decide) rfl (cpe_0_7 0 _) rfl rfl ?_
    refine px_return dX11_useRule_39 rfl ?_
    exact rfl
    -- end
theorem up2_same {S : MS} {r i : Nat} : up2 S r i (S r i) = S := by
  funext a b
  unfold up2 upd
  by_cases e : a = r
  · subst e
    rw [if_pos rfl]
    by_cases e2 : b = i
    · subst e2; rw [if_pos rfl]
    · rw [if_neg e2]
  · rw [if_neg e]
theorem up2_comm {S : MS} {r r' i i' : Nat} {x y : Int32} (h : r ≠ r') : up2 (up2 S r i x) r' i' y = up2 (up2 S r' i' y) r i x := by
  funext a b
  unfold up2
  by_cases e : a = r
  · subst e
    simp [h]
  · by_cases e2 : a = r'
    · subst e2
      simp [e]
    · simp [e, e2]
set_option maxHeartbeats 4000000 in
set_option maxRecDepth 100000 in
theorem c_X11_force (G : Gt) (m : Nat → Prop) (M0 : Nat → va_E) (Q : Qt) (S : MS) (v : Int32) (n t : Nat) (hCH : CH S Q n t) : PC G (CPic G m M0 Q) 3 Y11_force [.ref (Q.1 0 0), .int v] S 0 0 (ri (fun x S' => x = (f_force S v).1 ∧ S' = up2 (f_force S v).2 60 0 (if mIn v 0 (S 16 0 - 1) = 0 then nI t else v))) := by
  obtain ⟨hPH, hC, hC8, h60, h16, hOB⟩ := hCH
  have hn1 := hPH.1
  have hn6 := hPH.2.1
  have hTX := hPH.2.2.1
  have hWB := hPH.2.2.2.1
  have hco := hPH.2.2.2.2
  have ht := hTX.2.1
  have h6 := hTX.2.2.1
  have hRU : (S 60 0).toNatClampNeg = t := by rw [h60, nI_clamp (by omega)]
  have eN := hN_eq hn1 (by omega)
  have eC := cN_eq hC (by omega)
  refine pc_of (ls := [some (.ref (Q.1 0 0)), some (.int v), none]) (by decide +kernel) rfl (Nat.le_of_ble_eq_true rfl) ?_
  refine px_iload_n dX11_force_0 rfl rfl ?_
  refine px_iconst (v := 0) dX11_force_1 (by decide) ?_
  refine px_aload_n dX11_force_2 rfl rfl ?_
  refine cx_get (k := 0) (i := 0) (f := 5) dX11_force_3 gX11_69 rfl Nat.one_pos rfl ?_
  refine px_iconst (v := 1) dX11_force_6 (by decide) ?_
  refine px_isub dX11_force_7 ?_
  refine px_pure3 dX11_force_8 lX11_81 (c_X11_isWithin G _ _ _) (by decide) (Nat.le_of_ble_eq_true rfl) ?_
  refine px_if_ne (tgt := 17) dX11_force_11 (by decide) (fun H11 => ?_) (fun H11 => ?_)
  · skip
    obtain ⟨j, hj, ej⟩ := ix_of (v := v) (n := Q.2.2) (by omega) (by rw [← h16]; exact H11)
    subst ej
    refine px_aload_n dX11_force_17 rfl rfl ?_
    refine cx_get (k := 0) (i := 0) (f := 7) dX11_force_18 gX11_153 rfl Nat.one_pos rfl ?_
    refine px_istore_n2 dX11_force_21 (by decide) rfl ?_
    refine px_aload_n dX11_force_22 rfl rfl ?_
    refine px_iload_n dX11_force_23 rfl rfl ?_
    refine cx_callV1 (k := 0) (i := 0) dX11_force_24 lX11_156 rfl Nat.one_pos rfl (c_X11_useRule G m M0 Q S j h16 hj h6) (by decide) (Nat.le_of_ble_eq_true rfl) (fun S24 Q24 => ?_)
    obtain rfl := Q24.symm
    refine px_iload_n dX11_force_27 rfl rfl ?_
    refine px_iretI dX11_force_28 rfl ?_
    first
    | exact ⟨by rw [f_force, if_pos H11], by rw [f_force, if_pos H11, if_pos H11, ← h60]; exact (up2_same).symm⟩
    | exact ⟨by rw [f_force, if_neg H11], by rw [f_force, if_neg H11, if_neg H11]; exact up2_comm (by decide)⟩
  · skip
    refine px_bipush (v := (-2)) dX11_force_14 (by decide) ?_
    refine px_iretI dX11_force_16 rfl ?_
    first
    | exact ⟨by rw [f_force, if_pos H11], by rw [f_force, if_pos H11, if_pos H11, ← h60]; exact (up2_same).symm⟩
    | exact ⟨by rw [f_force, if_neg H11], by rw [f_force, if_neg H11, if_neg H11]; exact up2_comm (by decide)⟩
set_option maxHeartbeats 4000000 in
set_option maxRecDepth 100000 in
theorem c_X11_seen (G : Gt) (m : Nat → Prop) (M0 : Nat → va_E) (Q : Qt) (S : MS) (a b : Int32) (n t : Nat) (hCH : CH S Q n t) : PC G (CPic G m M0 Q) 4 Y11_seen [.ref (Q.1 0 0), .int a, .int b] S 0 0 (ri (fun x S' => x = f_seen S a b ∧ fr [80 + t, 90 + t] S S')) := by
  obtain ⟨hPH, hC, hC8, h60, h16, hOB⟩ := hCH
  have hn1 := hPH.1
  have hn6 := hPH.2.1
  have hTX := hPH.2.2.1
  have hWB := hPH.2.2.2.1
  have hco := hPH.2.2.2.2
  have ht := hTX.2.1
  have h6 := hTX.2.2.1
  have hRU : (S 60 0).toNatClampNeg = t := by rw [h60, nI_clamp (by omega)]
  have eN := hN_eq hn1 (by omega)
  have eC := cN_eq hC (by omega)
  refine pc_of (ls := [some (.ref (Q.1 0 0)), some (.int a), some (.int b)]) (by decide +kernel) rfl (Nat.le_of_ble_eq_true rfl) ?_
  refine px_aload_n dX11_seen_0 rfl rfl ?_
  refine cx_get (k := 0) (i := 0) (f := 0) dX11_seen_1 gX11_10 rfl Nat.one_pos rfl ?_
  refine px_iload_n dX11_seen_4 rfl rfl ?_
  refine cx_callI1 (k := 1) (i := 0) dX11_seen_5 lX11_77 rfl Nat.one_pos rfl (c_X10_has G m M0 Q S _) (by decide) (Nat.le_of_ble_eq_true rfl) (fun x5 S5 Q5 => ?_)
  obtain ⟨rfl, e5⟩ := Q5
  obtain rfl := e5.symm
  refine px_if_eq (tgt := 27) dX11_seen_8 (by decide) (fun H8 => ?_) (fun H8 => ?_)
  · skip
    refine px_bipush (v := (-5)) dX11_seen_27 (by decide) ?_
    refine px_iretI dX11_seen_29 rfl ?_
    first | exact ⟨by simp [f_seen, *], fr.rf⟩ | exact ⟨by rw [f_seen, if_neg (by simp [*]), ti, tj], f47⟩
  · skip
    refine px_aload_n dX11_seen_11 rfl rfl ?_
    refine cx_get (k := 0) (i := 0) (f := 0) dX11_seen_12 gX11_10 rfl Nat.one_pos rfl ?_
    refine px_iload_n dX11_seen_15 rfl rfl ?_
    refine cx_callI1 (k := 1) (i := 0) dX11_seen_16 lX11_77 rfl Nat.one_pos rfl (c_X10_has G m M0 Q S _) (by decide) (Nat.le_of_ble_eq_true rfl) (fun x16 S16 Q16 => ?_)
    obtain ⟨rfl, e16⟩ := Q16
    obtain rfl := e16.symm
    refine px_if_eq (tgt := 27) dX11_seen_19 (by decide) (fun H19 => ?_) (fun H19 => ?_)
    · skip
      refine px_bipush (v := (-5)) dX11_seen_27 (by decide) ?_
      refine px_iretI dX11_seen_29 rfl ?_
      first | exact ⟨by simp [f_seen, *], fr.rf⟩ | exact ⟨by rw [f_seen, if_neg (by simp [*]), ti, tj], f47⟩
    · skip
      refine px_iload_n dX11_seen_22 rfl rfl ?_
      refine px_iload_n dX11_seen_23 rfl rfl ?_
      refine px_icmp_ne (tgt := 30) dX11_seen_24 (by decide) (fun H24 => ?_) (fun H24 => ?_)
      · skip
        obtain ⟨i, hi, ei, ti⟩ := hk_ix hn1 hn6 H8
        subst ei
        obtain ⟨j, hj, ej, tj⟩ := hk_ix hn1 hn6 H19
        subst ej
        have hij : i ≠ j := fun e => H24 (by rw [e])
        refine px_aload_n dX11_seen_30 rfl rfl ?_
        refine cx_get (k := 0) (i := 0) (f := 6) dX11_seen_31 gX11_65 rfl Nat.one_pos rfl ?_
        rw [hRU]
        refine px_aload_n dX11_seen_34 rfl rfl ?_
        refine cx_get (k := 0) (i := 0) (f := 0) dX11_seen_35 gX11_10 rfl Nat.one_pos rfl ?_
        refine px_aload_n dX11_seen_38 rfl rfl ?_
        refine cx_get (k := 0) (i := 0) (f := 0) dX11_seen_39 gX11_10 rfl Nat.one_pos rfl ?_
        refine cx_get (k := 1) (i := 0) (f := 0) dX11_seen_42 gX11_85 rfl Nat.one_pos rfl ?_
        refine px_iload_n dX11_seen_45 rfl rfl ?_
        refine px_iload_n dX11_seen_46 rfl rfl ?_
        refine cx_callI4 (k := 28) (i := t) dX11_seen_47 lX11_160 rfl (show t < Q.2.2 by omega) rfl (c_X9_seenApart G m M0 Q S t 2 0 2 i j hTX (fun _ => rfl) Nat.one_pos hWB (by omega) (by omega) hij) (by decide) (Nat.le_of_ble_eq_true rfl) (fun x47 S47 Q47 => ?_)
        obtain ⟨rfl, f47⟩ := Q47
        rw [setA_id]
        refine px_iretI dX11_seen_50 rfl ?_
        first | exact ⟨by simp [f_seen, *], fr.rf⟩ | exact ⟨by rw [f_seen, if_neg (by simp [*]), ti, tj], f47⟩
      · skip
        refine px_bipush (v := (-5)) dX11_seen_27 (by decide) ?_
        refine px_iretI dX11_seen_29 rfl ?_
        first | exact ⟨by simp [f_seen, *], fr.rf⟩ | exact ⟨by rw [f_seen, if_neg (by simp [*]), ti, tj], f47⟩
set_option maxHeartbeats 4000000 in
set_option maxRecDepth 100000 in
theorem c_X11_mayMeet (G : Gt) (m : Nat → Prop) (M0 : Nat → va_E) (Q : Qt) (S : MS) (c q two : Int32) (n t : Nat) (hCH : CH S Q n t) : PC G (CPic G m M0 Q) 6 Y11_mayMeet [.ref (Q.1 0 0), .int c, .int q, .int two] S 0 0 (ri (fun x S' => x = f_mayMeet S c q two ∧ fr (scC 0 t) S S')) := by
  obtain ⟨hPH, hC, hC8, h60, h16, hOB⟩ := hCH
  have hn1 := hPH.1
  have hn6 := hPH.2.1
  have hTX := hPH.2.2.1
  have hWB := hPH.2.2.2.1
  have hco := hPH.2.2.2.2
  have ht := hTX.2.1
  have h6 := hTX.2.2.1
  have hRU : (S 60 0).toNatClampNeg = t := by rw [h60, nI_clamp (by omega)]
  have eN := hN_eq hn1 (by omega)
  have eC := cN_eq hC (by omega)
  refine pc_of (ls := [some (.ref (Q.1 0 0)), some (.int c), some (.int q), some (.int two), none, none, none]) (by decide +kernel) rfl (Nat.le_of_ble_eq_true rfl) ?_
  refine px_aload_n dX11_mayMeet_0 rfl rfl ?_
  refine px_iload_n dX11_mayMeet_1 rfl rfl ?_
  refine cx_callR1 (k := 0) (i := 0) dX11_mayMeet_2 lX11_98 rfl Nat.one_pos rfl (c_X11_coatAt G m M0 Q S c hC hC8) (by decide) (Nat.le_of_ble_eq_true rfl) (fun x2 S2 Q2 => ?_)
  obtain ⟨hx2, e2⟩ := Q2
  obtain rfl := e2.symm
  rcases hx2 with ⟨hct, rfl⟩ | ⟨hct, k, hk, ek, rfl⟩
  · skip
    refine px_astoreN_4 dX11_mayMeet_5 (by decide) rfl ?_
    refine px_aloadN dX11_mayMeet_7 rfl ?_
    refine px_ifnullN (tgt := 25) dX11_mayMeet_9 (by decide) ?_
    refine px_bipush (v := (-2)) dX11_mayMeet_25 (by decide) ?_
    refine px_iretI dX11_mayMeet_27 rfl ?_
    first | exact ⟨by simp [f_mayMeet, *], fr.rf⟩ | (refine ⟨?_, f88⟩; have h9 := mMeet_01 S k (nI q1) i j; simp only [f_mayMeet, hct, H18, H22, H49, H61, tk, ti, tj, or_self, if_false]; rcases h9 with h9 | h9 <;> simp_all)
  · skip
    subst ek
    have tk : (nI k).toNatClampNeg = k := nI_clamp (by omega)
    have hKO := (hco k hk).1
    have hTK := (hco k hk).2
    refine px_astore_4 dX11_mayMeet_5 (by decide) rfl ?_
    refine px_aload dX11_mayMeet_7 rfl ?_
    refine px_ifnull dX11_mayMeet_9 ?_
    refine px_iload_n dX11_mayMeet_12 rfl rfl ?_
    refine px_iconst (v := 0) dX11_mayMeet_13 (by decide) ?_
    refine px_iconst (v := 5) dX11_mayMeet_14 (by decide) ?_
    refine px_pure3 dX11_mayMeet_15 lX11_81 (c_X11_isWithin G _ _ _) (by decide) (Nat.le_of_ble_eq_true rfl) ?_
    refine px_if_eq (tgt := 25) dX11_mayMeet_18 (by decide) (fun H18 => ?_) (fun H18 => ?_)
    · skip
      refine px_bipush (v := (-2)) dX11_mayMeet_25 (by decide) ?_
      refine px_iretI dX11_mayMeet_27 rfl ?_
      first | exact ⟨by simp [f_mayMeet, *], fr.rf⟩ | (refine ⟨?_, f88⟩; have h9 := mMeet_01 S k (nI q1) i j; simp only [f_mayMeet, hct, H18, H22, H49, H61, tk, ti, tj, or_self, if_false]; rcases h9 with h9 | h9 <;> simp_all)
    · skip
      refine px_iload_n dX11_mayMeet_21 rfl rfl ?_
      refine px_if_ge (tgt := 28) dX11_mayMeet_22 (by decide) (fun H22 => ?_) (fun H22 => ?_)
      · skip
        refine px_iload_n dX11_mayMeet_28 rfl rfl ?_
        refine px_bipush (v := 100) dX11_mayMeet_29 (by decide) ?_
        refine px_idiv dX11_mayMeet_31 (by decide) ?_
        refine px_istore_5 dX11_mayMeet_32 (by decide) rfl ?_
        refine px_iload_n dX11_mayMeet_34 rfl rfl ?_
        refine px_bipush (v := 100) dX11_mayMeet_35 (by decide) ?_
        refine px_irem dX11_mayMeet_37 (by decide) ?_
        refine px_istore_6 dX11_mayMeet_38 (by decide) rfl ?_
        refine px_aload_n dX11_mayMeet_40 rfl rfl ?_
        refine cx_get (k := 0) (i := 0) (f := 0) dX11_mayMeet_41 gX11_10 rfl Nat.one_pos rfl ?_
        refine px_iload dX11_mayMeet_44 rfl ?_
        refine cx_callI1 (k := 1) (i := 0) dX11_mayMeet_46 lX11_77 rfl Nat.one_pos rfl (c_X10_has G m M0 Q S _) (by decide) (Nat.le_of_ble_eq_true rfl) (fun x46 S46 Q46 => ?_)
        obtain ⟨rfl, e46⟩ := Q46
        obtain rfl := e46.symm
        refine px_if_eq (tgt := 64) dX11_mayMeet_49 (by decide) (fun H49 => ?_) (fun H49 => ?_)
        · skip
          refine px_bipush (v := (-2)) dX11_mayMeet_64 (by decide) ?_
          refine px_iretI dX11_mayMeet_66 rfl ?_
          first | exact ⟨by simp [f_mayMeet, *], fr.rf⟩ | (refine ⟨?_, f88⟩; have h9 := mMeet_01 S k (nI q1) i j; simp only [f_mayMeet, hct, H18, H22, H49, H61, tk, ti, tj, or_self, if_false]; rcases h9 with h9 | h9 <;> simp_all)
        · skip
          refine px_aload_n dX11_mayMeet_52 rfl rfl ?_
          refine cx_get (k := 0) (i := 0) (f := 0) dX11_mayMeet_53 gX11_10 rfl Nat.one_pos rfl ?_
          refine px_iload dX11_mayMeet_56 rfl ?_
          refine cx_callI1 (k := 1) (i := 0) dX11_mayMeet_58 lX11_77 rfl Nat.one_pos rfl (c_X10_has G m M0 Q S _) (by decide) (Nat.le_of_ble_eq_true rfl) (fun x58 S58 Q58 => ?_)
          obtain ⟨rfl, e58⟩ := Q58
          obtain rfl := e58.symm
          refine px_if_ne (tgt := 67) dX11_mayMeet_61 (by decide) (fun H61 => ?_) (fun H61 => ?_)
          · skip
            obtain ⟨q1, hq1, eq1, tq1⟩ := in_ix (n := 5) (by omega) H18
            subst eq1
            obtain ⟨i, hi, ei, ti⟩ := hk_ix hn1 hn6 H49
            obtain ⟨j, hj, ej, tj⟩ := hk_ix hn1 hn6 H61
            refine px_aload_n dX11_mayMeet_67 rfl rfl ?_
            refine cx_get (k := 0) (i := 0) (f := 8) dX11_mayMeet_68 gX11_38 rfl Nat.one_pos rfl ?_
            refine px_aload dX11_mayMeet_71 rfl ?_
            refine px_aload_n dX11_mayMeet_73 rfl rfl ?_
            refine cx_get (k := 0) (i := 0) (f := 6) dX11_mayMeet_74 gX11_65 rfl Nat.one_pos rfl ?_
            rw [hRU]
            refine px_aload_n dX11_mayMeet_77 rfl rfl ?_
            refine cx_get (k := 0) (i := 0) (f := 0) dX11_mayMeet_78 gX11_10 rfl Nat.one_pos rfl ?_
            refine px_aload_n dX11_mayMeet_81 rfl rfl ?_
            refine cx_get (k := 0) (i := 0) (f := 0) dX11_mayMeet_82 gX11_10 rfl Nat.one_pos rfl ?_
            refine cx_get (k := 1) (i := 0) (f := 0) dX11_mayMeet_85 gX11_85 rfl Nat.one_pos rfl ?_
            refine cx_callV4 (k := 13) (i := 0) dX11_mayMeet_88 lX11_164 rfl (show 0 < 2 by omega) rfl (c_X3_layOut G m M0 Q S 0 n t k 2 0 2 (by decide) (hPH.lh hk) (fun _ => rfl) Nat.one_pos (by decide) (fun _ => rfl) (Or.inl rfl)) (by decide) (Nat.le_of_ble_eq_true rfl) (fun S88 Q88 => ?_)
            obtain ⟨f88, L88⟩ := Q88
            rw [setA_id] at L88
            refine px_aload_n dX11_mayMeet_91 rfl rfl ?_
            refine cx_get (k := 0) (i := 0) (f := 8) dX11_mayMeet_92 gX11_38 rfl Nat.one_pos rfl ?_
            refine px_iload_n dX11_mayMeet_95 rfl rfl ?_
            refine px_iload dX11_mayMeet_96 rfl ?_
            refine px_iload dX11_mayMeet_98 rfl ?_
            rw [ej, ei]
            refine cx_callI3 (k := 13) (i := 0) dX11_mayMeet_100 lX11_168 rfl (show 0 < 2 by omega) rfl (c_X3_fitTogether G m M0 Q S88 0 n k q1 i j S (d := 1) (by decide) L88 hn6 (by omega) hi hj) (by decide) (Nat.le_of_ble_eq_true rfl) (fun x100 S100 Q100 => ?_)
            obtain ⟨rfl, e100⟩ := Q100
            obtain rfl := e100.symm
            refine px_if_eq (tgt := 110) dX11_mayMeet_103 (by decide) (fun H103 => ?_) (fun H103 => ?_)
            · skip
              refine px_iconst (v := 0) dX11_mayMeet_110 (by decide) ?_
              refine px_iretI dX11_mayMeet_111 rfl ?_
              first | exact ⟨by simp [f_mayMeet, *], fr.rf⟩ | (refine ⟨?_, f88⟩; have h9 := mMeet_01 S k (nI q1) i j; simp only [f_mayMeet, hct, H18, H22, H49, H61, tk, ti, tj, or_self, if_false]; rcases h9 with h9 | h9 <;> simp_all)
            · skip
              refine px_iconst (v := 1) dX11_mayMeet_106 (by decide) ?_
              refine px_goto (tgt := 111) dX11_mayMeet_107 (by decide) ?_
              refine px_iretI dX11_mayMeet_111 rfl ?_
              first | exact ⟨by simp [f_mayMeet, *], fr.rf⟩ | (refine ⟨?_, f88⟩; have h9 := mMeet_01 S k (nI q1) i j; simp only [f_mayMeet, hct, H18, H22, H49, H61, tk, ti, tj, or_self, if_false]; rcases h9 with h9 | h9 <;> simp_all)
          · skip
            refine px_bipush (v := (-2)) dX11_mayMeet_64 (by decide) ?_
            refine px_iretI dX11_mayMeet_66 rfl ?_
            first | exact ⟨by simp [f_mayMeet, *], fr.rf⟩ | (refine ⟨?_, f88⟩; have h9 := mMeet_01 S k (nI q1) i j; simp only [f_mayMeet, hct, H18, H22, H49, H61, tk, ti, tj, or_self, if_false]; rcases h9 with h9 | h9 <;> simp_all)
      · skip
        refine px_bipush (v := (-2)) dX11_mayMeet_25 (by decide) ?_
        refine px_iretI dX11_mayMeet_27 rfl ?_
        first | exact ⟨by simp [f_mayMeet, *], fr.rf⟩ | (refine ⟨?_, f88⟩; have h9 := mMeet_01 S k (nI q1) i j; simp only [f_mayMeet, hct, H18, H22, H49, H61, tk, ti, tj, or_self, if_false]; rcases h9 with h9 | h9 <;> simp_all)
  -- end
set_option maxHeartbeats 4000000 in
set_option maxRecDepth 100000 in
theorem c_X11_between (G : Gt) (m : Nat → Prop) (M0 : Nat → va_E) (Q : Qt) (S : MS) (a b k : Int32) (n t : Nat) (hCH : CH S Q n t) : PC G (CPic G m M0 Q) 3 Y11_between [.ref (Q.1 0 0), .int a, .int b, .int k] S 0 0 (ri (fun x S' => x = f_between S a b k ∧ S' = S)) := by
  obtain ⟨hPH, hC, hC8, h60, h16, hOB⟩ := hCH
  have hn1 := hPH.1
  have hn6 := hPH.2.1
  have hTX := hPH.2.2.1
  have hWB := hPH.2.2.2.1
  have hco := hPH.2.2.2.2
  have ht := hTX.2.1
  have h6 := hTX.2.2.1
  have hRU : (S 60 0).toNatClampNeg = t := by rw [h60, nI_clamp (by omega)]
  have eN := hN_eq hn1 (by omega)
  have eC := cN_eq hC (by omega)
  refine pc_of (ls := [some (.ref (Q.1 0 0)), some (.int a), some (.int b), some (.int k)]) (by decide +kernel) rfl (Nat.le_of_ble_eq_true rfl) ?_
  refine px_aload_n dX11_between_0 rfl rfl ?_
  refine cx_get (k := 0) (i := 0) (f := 0) dX11_between_1 gX11_10 rfl Nat.one_pos rfl ?_
  refine px_iload_n dX11_between_4 rfl rfl ?_
  refine cx_callI1 (k := 1) (i := 0) dX11_between_5 lX11_77 rfl Nat.one_pos rfl (c_X10_has G m M0 Q S _) (by decide) (Nat.le_of_ble_eq_true rfl) (fun x5 S5 Q5 => ?_)
  obtain ⟨rfl, e5⟩ := Q5
  obtain rfl := e5.symm
  refine px_if_eq (tgt := 37) dX11_between_8 (by decide) (fun H8 => ?_) (fun H8 => ?_)
  · skip
    refine px_bipush (v := (-2)) dX11_between_37 (by decide) ?_
    refine px_iretI dX11_between_39 rfl ?_
    exact ⟨by simp [f_between, *], rfl⟩
  · skip
    refine px_aload_n dX11_between_11 rfl rfl ?_
    refine cx_get (k := 0) (i := 0) (f := 0) dX11_between_12 gX11_10 rfl Nat.one_pos rfl ?_
    refine px_iload_n dX11_between_15 rfl rfl ?_
    refine cx_callI1 (k := 1) (i := 0) dX11_between_16 lX11_77 rfl Nat.one_pos rfl (c_X10_has G m M0 Q S _) (by decide) (Nat.le_of_ble_eq_true rfl) (fun x16 S16 Q16 => ?_)
    obtain ⟨rfl, e16⟩ := Q16
    obtain rfl := e16.symm
    refine px_if_eq (tgt := 37) dX11_between_19 (by decide) (fun H19 => ?_) (fun H19 => ?_)
    · skip
      refine px_bipush (v := (-2)) dX11_between_37 (by decide) ?_
      refine px_iretI dX11_between_39 rfl ?_
      exact ⟨by simp [f_between, *], rfl⟩
    · skip
      refine px_iload_n dX11_between_22 rfl rfl ?_
      refine px_iload_n dX11_between_23 rfl rfl ?_
      refine px_icmp_eq (tgt := 37) dX11_between_24 (by decide) (fun H24 => ?_) (fun H24 => ?_)
      · skip
        refine px_bipush (v := (-2)) dX11_between_37 (by decide) ?_
        refine px_iretI dX11_between_39 rfl ?_
        exact ⟨by simp [f_between, *], rfl⟩
      · skip
        refine px_iload_n dX11_between_27 rfl rfl ?_
        refine px_iconst (v := 1) dX11_between_28 (by decide) ?_
        refine px_bipush (v := 9) dX11_between_29 (by decide) ?_
        refine px_pure3 dX11_between_31 lX11_81 (c_X11_isWithin G _ _ _) (by decide) (Nat.le_of_ble_eq_true rfl) ?_
        refine px_if_ne (tgt := 40) dX11_between_34 (by decide) (fun H34 => ?_) (fun H34 => ?_)
        · skip
          obtain ⟨i, hi, ei, ti⟩ := hk_ix hn1 hn6 H8
          subst ei
          obtain ⟨j, hj, ej, tj⟩ := hk_ix hn1 hn6 H19
          subst ej
          refine px_iload_n dX11_between_40 rfl rfl ?_
          refine px_aload_n dX11_between_41 rfl rfl ?_
          refine cx_get (k := 0) (i := 0) (f := 0) dX11_between_42 gX11_10 rfl Nat.one_pos rfl ?_
          refine px_iload_n dX11_between_45 rfl rfl ?_
          refine cx_callI1 (k := 1) (i := 0) dX11_between_46 lX11_134 rfl Nat.one_pos rfl (c_X10_fadedShade G m M0 Q S i (by omega) hWB) (by decide) (Nat.le_of_ble_eq_true rfl) (fun x46 S46 Q46 => ?_)
          obtain ⟨rfl, e46⟩ := Q46
          obtain rfl := e46.symm
          refine px_imul dX11_between_49 ?_
          refine px_aload_n dX11_between_50 rfl rfl ?_
          refine cx_get (k := 0) (i := 0) (f := 0) dX11_between_51 gX11_10 rfl Nat.one_pos rfl ?_
          refine px_iload_n dX11_between_54 rfl rfl ?_
          refine cx_callI1 (k := 1) (i := 0) dX11_between_55 lX11_134 rfl Nat.one_pos rfl (c_X10_fadedShade G m M0 Q S j (by omega) hWB) (by decide) (Nat.le_of_ble_eq_true rfl) (fun x55 S55 Q55 => ?_)
          obtain ⟨rfl, e55⟩ := Q55
          obtain rfl := e55.symm
          refine px_iadd dX11_between_58 ?_
          refine px_iload_n dX11_between_59 rfl rfl ?_
          refine px_iconst (v := 1) dX11_between_60 (by decide) ?_
          refine px_iadd dX11_between_61 ?_
          refine px_idiv dX11_between_62 (k1ne H34) ?_
          refine px_iretI dX11_between_63 rfl ?_
          exact ⟨by simp [f_between, *], rfl⟩
        · skip
          refine px_bipush (v := (-2)) dX11_between_37 (by decide) ?_
          refine px_iretI dX11_between_39 rfl ?_
          exact ⟨by simp [f_between, *], rfl⟩
theorem scK_C {κ t : Nat} : ∀ q, q ∈ scK κ → q ∈ scC κ t := by
  intro q hq
  unfold scK at hq
  unfold scC
  simp only [List.mem_cons, List.not_mem_nil, or_false] at hq ⊢
  omega
theorem scP_C {κ t : Nat} : ∀ q, q ∈ scP κ → q ∈ scC κ t := by
  intro q hq
  unfold scP at hq
  unfold scC
  simp only [List.mem_cons, List.not_mem_nil, or_false] at hq ⊢
  omega
set_option maxHeartbeats 4000000 in
set_option maxRecDepth 100000 in
theorem c_X11_judge (G : Gt) (m : Nat → Prop) (M0 : Nat → va_E) (Q : Qt) (S : MS) (c p : Int32) (n t : Nat) (hCH : CH S Q n t) : PC G (CPic G m M0 Q) 6 Y11_judge [.ref (Q.1 0 0), .int c, .int p] S 0 0 (ri (fun x S' => x = f_judge S c p ∧ fr (scC 0 t) S S')) := by
  obtain ⟨hPH, hC, hC8, h60, h16, hOB⟩ := hCH
  have hn1 := hPH.1
  have hn6 := hPH.2.1
  have hTX := hPH.2.2.1
  have hWB := hPH.2.2.2.1
  have hco := hPH.2.2.2.2
  have ht := hTX.2.1
  have h6 := hTX.2.2.1
  have hRU : (S 60 0).toNatClampNeg = t := by rw [h60, nI_clamp (by omega)]
  have eN := hN_eq hn1 (by omega)
  have eC := cN_eq hC (by omega)
  refine pc_of (ls := [some (.ref (Q.1 0 0)), some (.int c), some (.int p), none]) (by decide +kernel) rfl (Nat.le_of_ble_eq_true rfl) ?_
  refine px_aload_n dX11_judge_0 rfl rfl ?_
  refine px_iload_n dX11_judge_1 rfl rfl ?_
  refine cx_callR1 (k := 0) (i := 0) dX11_judge_2 lX11_98 rfl Nat.one_pos rfl (c_X11_coatAt G m M0 Q S c hC hC8) (by decide) (Nat.le_of_ble_eq_true rfl) (fun x2 S2 Q2 => ?_)
  obtain ⟨hx2, e2⟩ := Q2
  obtain rfl := e2.symm
  rcases hx2 with ⟨hct, rfl⟩ | ⟨hct, k, hk, ek, rfl⟩
  · skip
    refine px_astoreN_n3 dX11_judge_5 (by decide) rfl ?_
    refine px_aload_nN dX11_judge_6 rfl rfl ?_
    refine px_ifnullN (tgt := 21) dX11_judge_7 (by decide) ?_
    refine px_bipush (v := (-2)) dX11_judge_21 (by decide) ?_
    refine px_iretI dX11_judge_23 rfl ?_
    first | exact ⟨by simp [f_judge, *], fr.rf⟩ | exact ⟨by simp [f_judge, *], f44.tr (f52.mono scK_C)⟩
  · skip
    subst ek
    have tk : (nI k).toNatClampNeg = k := nI_clamp (by omega)
    have hKO := (hco k hk).1
    have hTK := (hco k hk).2
    refine px_astore_n3 dX11_judge_5 (by decide) rfl ?_
    refine px_aload_n dX11_judge_6 rfl rfl ?_
    refine px_ifnull dX11_judge_7 ?_
    refine px_iload_n dX11_judge_10 rfl rfl ?_
    refine px_iconst (v := 0) dX11_judge_11 (by decide) ?_
    refine px_sipush (v := 7775) dX11_judge_12 (by decide) ?_
    refine px_pure3 dX11_judge_15 lX11_81 (c_X11_isWithin G _ _ _) (by decide) (Nat.le_of_ble_eq_true rfl) ?_
    refine px_if_ne (tgt := 24) dX11_judge_18 (by decide) (fun H18 => ?_) (fun H18 => ?_)
    · skip
      obtain ⟨pn, hp7, ep, tp⟩ := in_ix (n := 7775) (by omega) H18
      subst ep
      refine px_aload_n dX11_judge_24 rfl rfl ?_
      refine cx_get (k := 0) (i := 0) (f := 8) dX11_judge_25 gX11_38 rfl Nat.one_pos rfl ?_
      refine px_aload_n dX11_judge_28 rfl rfl ?_
      refine px_aload_n dX11_judge_29 rfl rfl ?_
      refine cx_get (k := 0) (i := 0) (f := 6) dX11_judge_30 gX11_65 rfl Nat.one_pos rfl ?_
      rw [hRU]
      refine px_aload_n dX11_judge_33 rfl rfl ?_
      refine cx_get (k := 0) (i := 0) (f := 0) dX11_judge_34 gX11_10 rfl Nat.one_pos rfl ?_
      refine px_aload_n dX11_judge_37 rfl rfl ?_
      refine cx_get (k := 0) (i := 0) (f := 0) dX11_judge_38 gX11_10 rfl Nat.one_pos rfl ?_
      refine cx_get (k := 1) (i := 0) (f := 0) dX11_judge_41 gX11_85 rfl Nat.one_pos rfl ?_
      refine cx_callV4 (k := 13) (i := 0) dX11_judge_44 lX11_164 rfl (show 0 < 2 by omega) rfl (c_X3_layOut G m M0 Q S 0 n t k 2 0 2 (by decide) (hPH.lh hk) (fun _ => rfl) Nat.one_pos (by decide) (fun _ => rfl) (Or.inl rfl)) (by decide) (Nat.le_of_ble_eq_true rfl) (fun S44 Q44 => ?_)
      obtain ⟨f44, L44⟩ := Q44
      rw [setA_id] at L44
      refine px_aload_n dX11_judge_47 rfl rfl ?_
      refine cx_get (k := 0) (i := 0) (f := 8) dX11_judge_48 gX11_38 rfl Nat.one_pos rfl ?_
      refine px_iload_n dX11_judge_51 rfl rfl ?_
      refine cx_callI1 (k := 13) (i := 0) dX11_judge_52 lX11_182 rfl (show 0 < 2 by omega) rfl (c_X3_firstWrong G m M0 Q S44 0 n k pn S (by decide) L44 hn6 (by omega)) (by decide) (Nat.le_of_ble_eq_true rfl) (fun x52 S52 Q52 => ?_)
      obtain ⟨rfl, f52⟩ := Q52
      refine px_iretI dX11_judge_55 rfl ?_
      first | exact ⟨by simp [f_judge, *], fr.rf⟩ | exact ⟨by simp [f_judge, *], f44.tr (f52.mono scK_C)⟩
    · skip
      refine px_bipush (v := (-2)) dX11_judge_21 (by decide) ?_
      refine px_iretI dX11_judge_23 rfl ?_
      first | exact ⟨by simp [f_judge, *], fr.rf⟩ | exact ⟨by simp [f_judge, *], f44.tr (f52.mono scK_C)⟩
  -- end
theorem lk_can {x : Int32} (h1 : ¬ x = 0) (h2 : ¬ x = 1) : Op.lookupswitch.offset #[((0 : Int), (26 : Int)), (1, 34)].toList 42 x.toInt = 42 := by
  rw [i_eq] at h1 h2
  have e1 : (0 : Int32).toInt = 0 := by decide
  have e2 : (1 : Int32).toInt = 1 := by decide
  rw [e1] at h1; rw [e2] at h2
  simp [Op.lookupswitch.offset]
  omega
theorem can_end {S T : MS} {n k : Nat} (hm : MTC T 0 S n k 1 7776) : T (120 + 10 * 0) 0 = (cnF S n k 7776).1 ∧ T (120 + 10 * 0) 2 = (cnF S n k 7776).2.2 ∧ ((cnF S n k 7776).2.2 = 0 → T (120 + 10 * 0) 0 = -1 ∧ T (120 + 10 * 0) 1 = -1) ∧ (¬ (cnF S n k 7776).2.2 = 0 → T (120 + 10 * 0) 1 = (cnF S n k 7776).2.1) := by
  obtain ⟨a1, a2, a3, a4⟩ := hm
  obtain ⟨mm, hmm, ec, ez, -⟩ := cnF_g (U := S) (n := n) (c := k) (show 7776 ≤ 7776 by omega)
  have hl := cnF_lt (U := S) (n := n) (c := k) (show 7776 ≤ 7776 by omega)
  have a5 : T (120 + 10 * 0) 2 = (cnF S n k 7776).2.2 := by
    rcases a4 with a4 | a4
    · exact a4.2
    · exact absurd a4.2.1 (by decide)
  refine ⟨a2, a5, fun q => ?_, fun q => ?_⟩
  · have hm0 : mm = 0 := by rw [ec] at q; exact eq_n (b := 0) (by omega) (by omega) q
    have e1 := ez.mpr hm0
    exact ⟨by rw [a2, e1], by rw [a3, if_pos (hl.mpr e1)]⟩
  · rw [a3, if_neg (fun e => q (by rw [ec, ez.mp (hl.mp e)]; rfl))]
theorem can_w {w : Int32} (H : ¬ mIn w 0 2 = 0) : ¬ w = 0 → ¬ w = 1 → w = 2 := by
  intro h0 h1
  obtain ⟨j, hj, e, -⟩ := in_ix (n := 2) (by omega) H
  subst e
  rcases (by omega : j = 0 ∨ j = 1 ∨ j = 2) with rfl | rfl | rfl
  · exact absurd rfl h0
  · exact absurd rfl h1
  · rfl
set_option maxHeartbeats 4000000 in
set_option maxRecDepth 100000 in
theorem c_X11_can (G : Gt) (m : Nat → Prop) (M0 : Nat → va_E) (Q : Qt) (S : MS) (c w : Int32) (n t : Nat) (hCH : CH S Q n t) : PC G (CPic G m M0 Q) 10 Y11_can [.ref (Q.1 0 0), .int c, .int w] S 0 0 (ri (fun x S' => x = f_can S c w ∧ fr (scC 0 t) S S')) := by
  obtain ⟨hPH, hC, hC8, h60, h16, hOB⟩ := hCH
  have hn1 := hPH.1
  have hn6 := hPH.2.1
  have hTX := hPH.2.2.1
  have hWB := hPH.2.2.2.1
  have hco := hPH.2.2.2.2
  have ht := hTX.2.1
  have h6 := hTX.2.2.1
  have hRU : (S 60 0).toNatClampNeg = t := by rw [h60, nI_clamp (by omega)]
  have eN := hN_eq hn1 (by omega)
  have eC := cN_eq hC (by omega)
  refine pc_of (ls := [some (.ref (Q.1 0 0)), some (.int c), some (.int w), none]) (by decide +kernel) rfl (Nat.le_of_ble_eq_true rfl) ?_
  refine px_aload_n dX11_can_0 rfl rfl ?_
  refine px_iload_n dX11_can_1 rfl rfl ?_
  refine cx_callR1 (k := 0) (i := 0) dX11_can_2 lX11_98 rfl Nat.one_pos rfl (c_X11_coatAt G m M0 Q S c hC hC8) (by decide) (Nat.le_of_ble_eq_true rfl) (fun x2 S2 Q2 => ?_)
  obtain ⟨hx2, e2⟩ := Q2
  obtain rfl := e2.symm
  rcases hx2 with ⟨hct, rfl⟩ | ⟨hct, k, hk, ek, rfl⟩
  · skip
    refine px_astoreN_n3 dX11_can_5 (by decide) rfl ?_
    refine px_aload_nN dX11_can_6 rfl rfl ?_
    refine px_ifnullN (tgt := 19) dX11_can_7 (by decide) ?_
    refine px_bipush (v := (-2)) dX11_can_19 (by decide) ?_
    refine px_iretI dX11_can_21 rfl ?_
    first
    | exact ⟨by simp [f_can, *], fr.rf⟩
    | (refine ⟨?_, g50⟩
       have hw2 : ¬ w = 0 → ¬ w = 1 → w = 2 := can_w H16
       by_cases hz : (cnF S n k 7776).2.2 = 0
       · have rz' := rz hz
         simp_all [f_can]
       · have rn' := rn hz
         simp_all [f_can])
  · skip
    subst ek
    have tk : (nI k).toNatClampNeg = k := nI_clamp (by omega)
    have hKO := (hco k hk).1
    have hTK := (hco k hk).2
    refine px_astore_n3 dX11_can_5 (by decide) rfl ?_
    refine px_aload_n dX11_can_6 rfl rfl ?_
    refine px_ifnull dX11_can_7 ?_
    refine px_iload_n dX11_can_10 rfl rfl ?_
    refine px_iconst (v := 0) dX11_can_11 (by decide) ?_
    refine px_iconst (v := 2) dX11_can_12 (by decide) ?_
    refine px_pure3 dX11_can_13 lX11_81 (c_X11_isWithin G _ _ _) (by decide) (Nat.le_of_ble_eq_true rfl) ?_
    refine px_if_ne (tgt := 22) dX11_can_16 (by decide) (fun H16 => ?_) (fun H16 => ?_)
    · skip
      refine px_aload_n dX11_can_22 rfl rfl ?_
      refine cx_get (k := 0) (i := 0) (f := 8) dX11_can_23 gX11_38 rfl Nat.one_pos rfl ?_
      refine px_aload_n dX11_can_26 rfl rfl ?_
      refine px_aload_n dX11_can_27 rfl rfl ?_
      refine cx_get (k := 0) (i := 0) (f := 6) dX11_can_28 gX11_65 rfl Nat.one_pos rfl ?_
      rw [hRU]
      refine px_aload_n dX11_can_31 rfl rfl ?_
      refine cx_get (k := 0) (i := 0) (f := 0) dX11_can_32 gX11_10 rfl Nat.one_pos rfl ?_
      refine px_aload_n dX11_can_35 rfl rfl ?_
      refine cx_get (k := 0) (i := 0) (f := 0) dX11_can_36 gX11_10 rfl Nat.one_pos rfl ?_
      refine cx_get (k := 1) (i := 0) (f := 0) dX11_can_39 gX11_85 rfl Nat.one_pos rfl ?_
      refine cx_callV4 (k := 13) (i := 0) dX11_can_42 lX11_164 rfl (show 0 < 2 by omega) rfl (c_X3_layOut G m M0 Q S 0 n t k 2 0 2 (by decide) (hPH.lh hk) (fun _ => rfl) Nat.one_pos (by decide) (fun _ => rfl) (Or.inl rfl)) (by decide) (Nat.le_of_ble_eq_true rfl) (fun S42 Q42 => ?_)
      obtain ⟨f42, L42⟩ := Q42
      rw [setA_id] at L42
      refine px_aload_n dX11_can_45 rfl rfl ?_
      refine cx_get (k := 0) (i := 0) (f := 8) dX11_can_46 gX11_38 rfl Nat.one_pos rfl ?_
      refine px_iconst (v := 1) dX11_can_49 (by decide) ?_
      refine cx_callV1 (k := 13) (i := 0) dX11_can_50 lX11_185 rfl (show 0 < 2 by omega) rfl (c_X3_findBest G m M0 Q S42 0 n k S 1 L42 (Or.inr rfl) (by decide) hn6 hTK hOB) (by decide) (Nat.le_of_ble_eq_true rfl) (fun S50 Q50 => ?_)
      obtain ⟨f50, L50, m50⟩ := Q50
      obtain ⟨r0, r2, rz, rn⟩ := can_end m50
      have g50 := f42.tr (f50.mono (scP_C (t := t)))
      refine px_iload_n dX11_can_53 rfl rfl ?_
      by_cases H54_0 : w = 0
      · refine px_lookup (off := 26) (tgt := 80) dX11_can_54 (by decide) (by rw [H54_0]; rfl) (by decide) ?_
        refine px_aload_n dX11_can_80 rfl rfl ?_
        refine cx_get (k := 0) (i := 0) (f := 8) dX11_can_81 gX11_38 rfl Nat.one_pos rfl ?_
        refine cx_get (k := 13) (i := 0) (f := 0) dX11_can_84 gX11_189 rfl (show 0 < 2 by omega) rfl ?_
        refine px_iretI dX11_can_87 rfl ?_
        first
        | exact ⟨by simp [f_can, *], fr.rf⟩
        | (refine ⟨?_, g50⟩
           have hw2 : ¬ w = 0 → ¬ w = 1 → w = 2 := can_w H16
           by_cases hz : (cnF S n k 7776).2.2 = 0
           · have rz' := rz hz
             simp_all [f_can]
           · have rn' := rn hz
             simp_all [f_can])
      by_cases H54_1 : w = 1
      · refine px_lookup (off := 34) (tgt := 88) dX11_can_54 (by decide) (by rw [H54_1]; rfl) (by decide) ?_
        refine px_aload_n dX11_can_88 rfl rfl ?_
        refine cx_get (k := 0) (i := 0) (f := 8) dX11_can_89 gX11_38 rfl Nat.one_pos rfl ?_
        refine cx_get (k := 13) (i := 0) (f := 1) dX11_can_92 gX11_192 rfl (show 0 < 2 by omega) rfl ?_
        refine px_iretI dX11_can_95 rfl ?_
        first
        | exact ⟨by simp [f_can, *], fr.rf⟩
        | (refine ⟨?_, g50⟩
           have hw2 : ¬ w = 0 → ¬ w = 1 → w = 2 := can_w H16
           by_cases hz : (cnF S n k 7776).2.2 = 0
           · have rz' := rz hz
             simp_all [f_can]
           · have rn' := rn hz
             simp_all [f_can])
      refine px_lookup (off := 42) (tgt := 96) dX11_can_54 (by decide) (lk_can ‹_› ‹_›) (by decide) ?_
      refine px_aload_n dX11_can_96 rfl rfl ?_
      refine cx_get (k := 0) (i := 0) (f := 8) dX11_can_97 gX11_38 rfl Nat.one_pos rfl ?_
      refine cx_get (k := 13) (i := 0) (f := 2) dX11_can_100 gX11_195 rfl (show 0 < 2 by omega) rfl ?_
      refine px_iretI dX11_can_103 rfl ?_
      first
      | exact ⟨by simp [f_can, *], fr.rf⟩
      | (refine ⟨?_, g50⟩
         have hw2 : ¬ w = 0 → ¬ w = 1 → w = 2 := can_w H16
         by_cases hz : (cnF S n k 7776).2.2 = 0
         · have rz' := rz hz
           simp_all [f_can]
         · have rn' := rn hz
           simp_all [f_can])
    · skip
      refine px_bipush (v := (-2)) dX11_can_19 (by decide) ?_
      refine px_iretI dX11_can_21 rfl ?_
      first
      | exact ⟨by simp [f_can, *], fr.rf⟩
      | (refine ⟨?_, g50⟩
         have hw2 : ¬ w = 0 → ¬ w = 1 → w = 2 := can_w H16
         by_cases hz : (cnF S n k 7776).2.2 = 0
         · have rz' := rz hz
           simp_all [f_can]
         · have rn' := rn hz
           simp_all [f_can])
  -- end
