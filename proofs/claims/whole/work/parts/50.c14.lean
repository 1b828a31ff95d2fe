/-! THE CLASS: the sheets -/
def mHR (S : MS) (s : Nat) (f n : Int32) : Int32 := if f < 0 ∨ n < 0 ∨ S 49 s - n < f then 0 else 1
def SHI (S : MS) : Prop := ∀ s, s < 4 → (S 48 s = -1 ∨ ¬ S 48 s < 0) ∧ ∃ w, w ≤ 40 ∧ S 49 s = nI w ∧ (¬ S 48 s = -1 → ∀ i, i < w → S (110 + s) i = S 50 (40 * s + i))
theorem SHI.a {S : MS} (h : SHI S) {s : Nat} (hs : s < 4) (hm : ¬ S 48 s = -1) : ¬ S 48 s < 0 := (h s hs).1.resolve_left hm
theorem SHI.m {S : MS} (h : SHI S) {s : Nat} (hs : s < 4) : S 48 s < 0 ↔ S 48 s = -1 := ⟨fun q => (h s hs).1.resolve_right (fun q2 => q2 q), fun q => by rw [q]; decide⟩
theorem i0_ge {x : Int32} : ¬ x < 0 ↔ 0 ≤ x.toInt := by rw [i_lt, show (0 : Int32).toInt = 0 from rfl]; omega
theorem hr_iff {S : MS} {s w : Nat} {f n : Int32} (h : S 49 s = nI w) (hw : w ≤ 40) : mHR S s f n = 0 ↔ f < 0 ∨ n < 0 ∨ (S 49 s).toInt < f.toInt + n.toInt := by
  unfold mHR
  rw [h, nI_toInt' (by omega)]
  have r2 := Int32.le_toInt n
  have r3 := Int32.toInt_lt n
  constructor
  · intro q
    by_cases h1 : f < 0
    · exact Or.inl h1
    by_cases h2 : n < 0
    · exact Or.inr (Or.inl h2)
    refine Or.inr (Or.inr ?_)
    by_cases h3 : nI w - n < f
    · have h2' := i0_ge.mp h2
      rw [i_lt, fb_subI (by rw [nI_toInt' (by omega)]; omega) (by rw [nI_toInt' (by omega)]; omega), nI_toInt' (by omega)] at h3
      omega
    · rw [if_neg (by rintro (a | a | a); exact h1 a; exact h2 a; exact h3 a)] at q
      exact absurd q (by decide)
  · intro q
    rw [if_pos]
    by_cases h1 : f < 0
    · exact Or.inl h1
    by_cases h2 : n < 0
    · exact Or.inr (Or.inl h2)
    refine Or.inr (Or.inr ?_)
    have h2' := i0_ge.mp h2
    rw [i_lt, fb_subI (by rw [nI_toInt' (by omega)]; omega) (by rw [nI_toInt' (by omega)]; omega), nI_toInt' (by omega)]
    rcases q with q | q | q
    · exact absurd q h1
    · exact absurd q h2
    · omega
def g_sheet (S : MS) (s sort n : Int32) : MS := if mIn s 0 3 = 0 ∨ mIn sort (-1) 2 = 0 then S else if sort = -1 then up2 S 48 s.toNatClampNeg (-1) else if 40 < n then S else if n < 0 then S else setA (up2 (up2 S 48 s.toNatClampNeg sort) 49 s.toNatClampNeg n) (110 + s.toNatClampNeg) (fa_fill (fun _ => 0) ((up2 (up2 S 48 s.toNatClampNeg sort) 49 s.toNatClampNeg n) (110 + s.toNatClampNeg)) 40)
def g_cell (S : MS) (s i v : Int32) : MS := if mIn s 0 3 = 0 then S else if S 48 s.toNatClampNeg < 0 then S else if mIn i 0 (S 49 s.toNatClampNeg - 1) = 0 then S else up2 S (110 + s.toNatClampNeg) i.toNatClampNeg (mCut (S 48 s.toNatClampNeg) v)
def g_copy (S : MS) (s i o j n : Int32) : MS := if mIn s 0 3 = 0 ∨ mIn o 0 3 = 0 then S else if S 48 s.toNatClampNeg < 0 ∨ S 48 o.toNatClampNeg < 0 then S else if ¬ S 48 s.toNatClampNeg = S 48 o.toNatClampNeg then S else if n < 0 ∨ i < 0 ∨ j < 0 ∨ (S 49 s.toNatClampNeg).toInt < i.toInt + n.toInt ∨ (S 49 o.toNatClampNeg).toInt < j.toInt + n.toInt then S else setA S (110 + o.toNatClampNeg) (va_cpy (S (110 + s.toNatClampNeg)) (S (110 + o.toNatClampNeg)) i.toNatClampNeg j.toNatClampNeg n.toNatClampNeg)
set_option maxHeartbeats 4000000 in
set_option maxRecDepth 100000 in
theorem c_X11_hasRun (G : Gt) (m : Nat → Prop) (M0 : Nat → va_E) (Q : Qt) (S : MS) (j : Nat) (f n : Int32) (hj : j < 4) : PC G (CPic G m M0 Q) 1 Y11_hasRun [.ref (Q.1 0 0), .int (nI j), .int f, .int n] S 0 0 (ri (fun x S' => x = mHR S j f n ∧ S' = S)) := by
  refine pc_of (ls := [some (.ref (Q.1 0 0)), some (.int (nI j)), some (.int f), some (.int n)]) (by decide +kernel) rfl (Nat.le_of_ble_eq_true rfl) ?_
  refine px_iload_n dX11_hasRun_0 rfl rfl ?_
  refine px_if_lt (tgt := 24) dX11_hasRun_1 (by decide) (fun H1 => ?_) (fun H1 => ?_)
  · skip
    refine px_iconst (v := 0) dX11_hasRun_24 (by decide) ?_
    refine px_iretZ dX11_hasRun_25 rfl (by first | rfl | decide) ?_
    exact ⟨by unfold mHR; simp_all, rfl⟩
  · skip
    refine px_iload_n dX11_hasRun_4 rfl rfl ?_
    refine px_if_lt (tgt := 24) dX11_hasRun_5 (by decide) (fun H5 => ?_) (fun H5 => ?_)
    · skip
      refine px_iconst (v := 0) dX11_hasRun_24 (by decide) ?_
      refine px_iretZ dX11_hasRun_25 rfl (by first | rfl | decide) ?_
      exact ⟨by unfold mHR; simp_all, rfl⟩
    · skip
      refine px_iload_n dX11_hasRun_8 rfl rfl ?_
      refine px_aload_n dX11_hasRun_9 rfl rfl ?_
      refine cx_get (k := 0) (i := 0) (f := 15) dX11_hasRun_10 gX11_58 rfl Nat.one_pos rfl ?_
      refine px_iload_n dX11_hasRun_13 rfl rfl ?_
      refine cx_iald (k := 27) (i := 0) (r := 49) (j) dX11_hasRun_14 rfl Nat.one_pos rfl (by omega) (by decide) ?_
      refine px_iload_n dX11_hasRun_15 rfl rfl ?_
      refine px_isub dX11_hasRun_16 ?_
      refine px_icmp_gt (tgt := 24) dX11_hasRun_17 (by decide) (fun H17 => ?_) (fun H17 => ?_)
      · skip
        refine px_iconst (v := 0) dX11_hasRun_24 (by decide) ?_
        refine px_iretZ dX11_hasRun_25 rfl (by first | rfl | decide) ?_
        exact ⟨by unfold mHR; simp_all, rfl⟩
      · skip
        refine px_iconst (v := 1) dX11_hasRun_20 (by decide) ?_
        refine px_goto (tgt := 25) dX11_hasRun_21 (by decide) ?_
        refine px_iretZ dX11_hasRun_25 rfl (by first | rfl | decide) ?_
        exact ⟨by unfold mHR; simp_all, rfl⟩
set_option maxHeartbeats 4000000 in
set_option maxRecDepth 100000 in
theorem c_X11_sheet (G : Gt) (m : Nat → Prop) (M0 : Nat → va_E) (Q : Qt) (S : MS) (s srt n : Int32)  : PC G (CPic G m M0 Q) 3 Y11_sheet [.ref (Q.1 0 0), .int s, .int srt, .int n] S 0 0 (ri (fun x S' => x = (f_sheet S s srt n).1 ∧ S' = g_sheet S s srt n)) := by
  refine pc_of (ls := [some (.ref (Q.1 0 0)), some (.int s), some (.int srt), some (.int n)]) (by decide +kernel) rfl (Nat.le_of_ble_eq_true rfl) ?_
  refine px_iload_n dX11_sheet_0 rfl rfl ?_
  refine px_pure1 dX11_sheet_1 lX11_263 (c_X11_isSheet G _) (by decide) (Nat.le_of_ble_eq_true rfl) ?_
  refine px_if_eq (tgt := 16) dX11_sheet_4 (by decide) (fun H4 => ?_) (fun H4 => ?_)
  · skip
    refine px_bipush (v := (-2)) dX11_sheet_16 (by decide) ?_
    refine px_iretI dX11_sheet_18 rfl ?_
    exact ⟨by unfold f_sheet; simp_all [-Int32.not_lt], by unfold g_sheet; simp_all [-Int32.not_lt]⟩
  · skip
    refine px_iload_n dX11_sheet_7 rfl rfl ?_
    refine px_iconst (v := (-1)) dX11_sheet_8 (by decide) ?_
    refine px_iconst (v := 2) dX11_sheet_9 (by decide) ?_
    refine px_pure3 dX11_sheet_10 lX11_81 (c_X11_isWithin G _ _ _) (by decide) (Nat.le_of_ble_eq_true rfl) ?_
    refine px_if_ne (tgt := 19) dX11_sheet_13 (by decide) (fun H13 => ?_) (fun H13 => ?_)
    · skip
      refine px_iload_n dX11_sheet_19 rfl rfl ?_
      refine px_iconst (v := (-1)) dX11_sheet_20 (by decide) ?_
      refine px_icmp_ne (tgt := 33) dX11_sheet_21 (by decide) (fun H21 => ?_) (fun H21 => ?_)
      · skip
        obtain ⟨j, hj, ej, tj⟩ := in_ix (n := 3) (by decide) H4
        subst ej
        refine px_iload_n dX11_sheet_33 rfl rfl ?_
        refine px_bipush (v := 40) dX11_sheet_34 (by decide) ?_
        refine px_icmp_le (tgt := 42) dX11_sheet_36 (by decide) (fun H36 => ?_) (fun H36 => ?_)
        · skip
          refine px_iload_n dX11_sheet_42 rfl rfl ?_
          refine px_if_ge (tgt := 49) dX11_sheet_43 (by decide) (fun H43 => ?_) (fun H43 => ?_)
          · skip
            refine px_aload_n dX11_sheet_49 rfl rfl ?_
            refine cx_get (k := 0) (i := 0) (f := 14) dX11_sheet_50 gX11_54 rfl Nat.one_pos rfl ?_
            refine px_iload_n dX11_sheet_53 rfl rfl ?_
            refine px_iload_n dX11_sheet_54 rfl rfl ?_
            refine cx_iast (k := 26) (i := 0) (r := 48) (j) dX11_sheet_55 (fun _ _ => rfl) Nat.one_pos (by decide) rfl rfl (by omega) (by decide) ?_
            refine px_aload_n dX11_sheet_56 rfl rfl ?_
            refine cx_get (k := 0) (i := 0) (f := 15) dX11_sheet_57 gX11_58 rfl Nat.one_pos rfl ?_
            refine px_iload_n dX11_sheet_60 rfl rfl ?_
            refine px_iload_n dX11_sheet_61 rfl rfl ?_
            refine cx_iast (k := 27) (i := 0) (r := 49) (j) dX11_sheet_62 (fun _ _ => rfl) Nat.one_pos (by decide) rfl rfl (by omega) (by decide) ?_
            generalize hT1 : up2 (up2 S 48 j srt) 49 j n = T1
            refine px_aload_n dX11_sheet_63 rfl rfl ?_
            refine cx_get (k := 0) (i := 0) (f := 13) dX11_sheet_64 gX11_51 rfl Nat.one_pos rfl ?_
            refine px_iload_n dX11_sheet_67 rfl rfl ?_
            refine cx_aald (k := 24) (i := 0) (j) dX11_sheet_68 rfl Nat.one_pos rfl rfl rfl (by omega) (by decide) rfl ?_
            refine px_iconst (v := 0) dX11_sheet_69 (by decide) ?_
            refine px_callSV (P := fun S' => S' = setA T1 (110 + j) (fa_fill (fun _ => 0) (T1 (110 + j)) 40)) dX11_sheet_70 lX11_266 (av := [.ref (Q.1 25 j), .int 0]) rfl rfl (c_fill G m M0 Q T1 25 j (110 + j) 40 0 (fun _ _ => rfl) (show j < 4 by omega) (by omega) (fun _ => (ow_100 (by omega) _).2) (by decide)) (by decide) (Nat.le_of_ble_eq_true rfl) (fun S70 Q70 => ?_)
            subst Q70
            subst hT1
            refine px_iconst (v := 1) dX11_sheet_73 (by decide) ?_
            refine px_iretI dX11_sheet_74 rfl ?_
            exact ⟨by unfold f_sheet; simp_all [-Int32.not_lt], by unfold g_sheet; simp_all [-Int32.not_lt]⟩
          · skip
            refine px_bipush (v := (-14)) dX11_sheet_46 (by decide) ?_
            refine px_iretI dX11_sheet_48 rfl ?_
            exact ⟨by unfold f_sheet; simp_all [-Int32.not_lt], by unfold g_sheet; simp_all [-Int32.not_lt]⟩
        · skip
          refine px_bipush (v := (-2)) dX11_sheet_39 (by decide) ?_
          refine px_iretI dX11_sheet_41 rfl ?_
          exact ⟨by unfold f_sheet; simp_all [-Int32.not_lt], by unfold g_sheet; simp_all [-Int32.not_lt]⟩
      · skip
        obtain ⟨j, hj, ej, tj⟩ := in_ix (n := 3) (by decide) H4
        subst ej
        refine px_aload_n dX11_sheet_24 rfl rfl ?_
        refine cx_get (k := 0) (i := 0) (f := 14) dX11_sheet_25 gX11_54 rfl Nat.one_pos rfl ?_
        refine px_iload_n dX11_sheet_28 rfl rfl ?_
        refine px_iconst (v := (-1)) dX11_sheet_29 (by decide) ?_
        refine cx_iast (k := 26) (i := 0) (r := 48) (j) dX11_sheet_30 (fun _ _ => rfl) Nat.one_pos (by decide) rfl rfl (by omega) (by decide) ?_
        refine px_iconst (v := 1) dX11_sheet_31 (by decide) ?_
        refine px_iretI dX11_sheet_32 rfl ?_
        exact ⟨by unfold f_sheet; simp_all [-Int32.not_lt], by unfold g_sheet; simp_all [-Int32.not_lt]⟩
    · skip
      refine px_bipush (v := (-2)) dX11_sheet_16 (by decide) ?_
      refine px_iretI dX11_sheet_18 rfl ?_
      exact ⟨by unfold f_sheet; simp_all [-Int32.not_lt], by unfold g_sheet; simp_all [-Int32.not_lt]⟩
set_option maxHeartbeats 4000000 in
set_option maxRecDepth 100000 in
theorem c_X11_cell (G : Gt) (m : Nat → Prop) (M0 : Nat → va_E) (Q : Qt) (S : MS) (s i v : Int32) (hSH : SHI S) : PC G (CPic G m M0 Q) 3 Y11_cell [.ref (Q.1 0 0), .int s, .int i, .int v] S 0 0 (ri (fun x S' => x = (f_cell S s i v).1 ∧ S' = g_cell S s i v)) := by
  refine pc_of (ls := [some (.ref (Q.1 0 0)), some (.int s), some (.int i), some (.int v)]) (by decide +kernel) rfl (Nat.le_of_ble_eq_true rfl) ?_
  refine px_iload_n dX11_cell_0 rfl rfl ?_
  refine px_pure1 dX11_cell_1 lX11_263 (c_X11_isSheet G _) (by decide) (Nat.le_of_ble_eq_true rfl) ?_
  refine px_if_ne (tgt := 10) dX11_cell_4 (by decide) (fun H4 => ?_) (fun H4 => ?_)
  · skip
    obtain ⟨j, hj, ej, tj⟩ := in_ix (n := 3) (by decide) H4
    subst ej
    refine px_aload_n dX11_cell_10 rfl rfl ?_
    refine cx_get (k := 0) (i := 0) (f := 14) dX11_cell_11 gX11_54 rfl Nat.one_pos rfl ?_
    refine px_iload_n dX11_cell_14 rfl rfl ?_
    refine cx_iald (k := 26) (i := 0) (r := 48) _ dX11_cell_15 rfl Nat.one_pos rfl (by omega) (by decide) ?_
    refine px_iconst (v := (-1)) dX11_cell_16 (by decide) ?_
    refine px_icmp_ne (tgt := 23) dX11_cell_17 (by decide) (fun H17 => ?_) (fun H17 => ?_)
    · skip
      have nm := hSH.a (by omega) H17
      refine px_iload_n dX11_cell_23 rfl rfl ?_
      refine px_iconst (v := 0) dX11_cell_24 (by decide) ?_
      refine px_aload_n dX11_cell_25 rfl rfl ?_
      refine cx_get (k := 0) (i := 0) (f := 15) dX11_cell_26 gX11_58 rfl Nat.one_pos rfl ?_
      refine px_iload_n dX11_cell_29 rfl rfl ?_
      refine cx_iald (k := 27) (i := 0) (r := 49) (j) dX11_cell_30 rfl Nat.one_pos rfl (by omega) (by decide) ?_
      refine px_iconst (v := 1) dX11_cell_31 (by decide) ?_
      refine px_isub dX11_cell_32 ?_
      refine px_pure3 dX11_cell_33 lX11_81 (c_X11_isWithin G _ _ _) (by decide) (Nat.le_of_ble_eq_true rfl) ?_
      refine px_if_ne (tgt := 42) dX11_cell_36 (by decide) (fun H36 => ?_) (fun H36 => ?_)
      · skip
        obtain ⟨w, hw, ew, -⟩ := (hSH j (by omega)).2
        have hw1 : 1 ≤ w := by
          rcases Nat.eq_zero_or_pos w with q | q
          · subst q; rw [ew] at H36; obtain ⟨q1, q2⟩ := mIn_1.mp H36
            rw [i_lt] at q1 q2
            rw [show (0 : Int32).toInt = 0 from rfl] at q1
            rw [show (nI 0 - 1).toInt = -1 from rfl] at q2
            omega
          · exact q
        rw [ew, nIs hw1] at H36
        rw [← nIs hw1, ← ew] at H36
        obtain ⟨u, hu, eu, tu⟩ := in_ix (n := w - 1) (by omega) (by rw [ew, nIs hw1] at H36; exact H36)
        subst eu
        refine px_aload_n dX11_cell_42 rfl rfl ?_
        refine cx_get (k := 0) (i := 0) (f := 13) dX11_cell_43 gX11_51 rfl Nat.one_pos rfl ?_
        refine px_iload_n dX11_cell_46 rfl rfl ?_
        refine cx_aald (k := 24) (i := 0) (j) dX11_cell_47 rfl Nat.one_pos rfl rfl rfl (by omega) (by decide) rfl ?_
        refine px_iload_n dX11_cell_48 rfl rfl ?_
        refine px_aload_n dX11_cell_49 rfl rfl ?_
        refine cx_get (k := 0) (i := 0) (f := 14) dX11_cell_50 gX11_54 rfl Nat.one_pos rfl ?_
        refine px_iload_n dX11_cell_53 rfl rfl ?_
        refine cx_iald (k := 26) (i := 0) (r := 48) (j) dX11_cell_54 rfl Nat.one_pos rfl (by omega) (by decide) ?_
        refine px_iload_n dX11_cell_55 rfl rfl ?_
        refine px_pure2 dX11_cell_56 lX11_272 (c_X11_cutToSort G _ _) (by decide) (Nat.le_of_ble_eq_true rfl) ?_
        refine cx_iast (k := 25) (i := j) (r := (110 + j)) (u) dX11_cell_59 (fun _ _ => rfl) (show j < 4 by omega) (by omega) (ow_100 (by omega) _).2 rfl (by omega) (by decide) ?_
        refine px_iconst (v := 1) dX11_cell_60 (by decide) ?_
        refine px_iretI dX11_cell_61 rfl ?_
        exact ⟨by unfold f_cell; simp_all [-Int32.not_lt], by unfold g_cell; simp_all [-Int32.not_lt]⟩
      · skip
        refine px_bipush (v := (-12)) dX11_cell_39 (by decide) ?_
        refine px_iretI dX11_cell_41 rfl ?_
        exact ⟨by unfold f_cell; simp_all [-Int32.not_lt], by unfold g_cell; simp_all [-Int32.not_lt]⟩
    · skip
      have nm : S 48 j < 0 := by rw [H17]; decide
      refine px_bipush (v := (-11)) dX11_cell_20 (by decide) ?_
      refine px_iretI dX11_cell_22 rfl ?_
      exact ⟨by unfold f_cell; simp_all [-Int32.not_lt], by unfold g_cell; simp_all [-Int32.not_lt]⟩
  · skip
    refine px_bipush (v := (-2)) dX11_cell_7 (by decide) ?_
    refine px_iretI dX11_cell_9 rfl ?_
    exact ⟨by unfold f_cell; simp_all [-Int32.not_lt], by unfold g_cell; simp_all [-Int32.not_lt]⟩
set_option maxHeartbeats 4000000 in
set_option maxRecDepth 100000 in
theorem c_X11_copy (G : Gt) (m : Nat → Prop) (M0 : Nat → va_E) (Q : Qt) (S : MS) (s i oo jj nn : Int32) (hSH : SHI S) : PC G (CPic G m M0 Q) 3 Y11_copy [.ref (Q.1 0 0), .int s, .int i, .int oo, .int jj, .int nn] S 0 0 (ri (fun x S' => x = (f_copy S s i oo jj nn).1 ∧ S' = g_copy S s i oo jj nn)) := by
  refine pc_of (ls := [some (.ref (Q.1 0 0)), some (.int s), some (.int i), some (.int oo), some (.int jj), some (.int nn)]) (by decide +kernel) rfl (Nat.le_of_ble_eq_true rfl) ?_
  refine px_iload_n dX11_copy_0 rfl rfl ?_
  refine px_pure1 dX11_copy_1 lX11_263 (c_X11_isSheet G _) (by decide) (Nat.le_of_ble_eq_true rfl) ?_
  refine px_if_eq (tgt := 14) dX11_copy_4 (by decide) (fun H4 => ?_) (fun H4 => ?_)
  · skip
    refine px_bipush (v := (-2)) dX11_copy_14 (by decide) ?_
    refine px_iretI dX11_copy_16 rfl ?_
    exact ⟨by unfold f_copy; simp_all [-Int32.not_lt], by unfold g_copy; simp_all [-Int32.not_lt]⟩
  · skip
    refine px_iload_n dX11_copy_7 rfl rfl ?_
    refine px_pure1 dX11_copy_8 lX11_263 (c_X11_isSheet G _) (by decide) (Nat.le_of_ble_eq_true rfl) ?_
    refine px_if_ne (tgt := 17) dX11_copy_11 (by decide) (fun H11 => ?_) (fun H11 => ?_)
    · skip
      obtain ⟨a, ha, ea, ta⟩ := in_ix (n := 3) (by decide) H4
      subst ea
      obtain ⟨b, hb, eb, tb_⟩ := in_ix (n := 3) (by decide) H11
      subst eb
      obtain ⟨wa, hwa, ewa, -⟩ := (hSH a (by omega)).2
      obtain ⟨wb, hwb, ewb, -⟩ := (hSH b (by omega)).2
      refine px_aload_n dX11_copy_17 rfl rfl ?_
      refine cx_get (k := 0) (i := 0) (f := 14) dX11_copy_18 gX11_54 rfl Nat.one_pos rfl ?_
      refine px_iload_n dX11_copy_21 rfl rfl ?_
      refine cx_iald (k := 26) (i := 0) (r := 48) (a) dX11_copy_22 rfl Nat.one_pos rfl (by omega) (by decide) ?_
      refine px_iconst (v := (-1)) dX11_copy_23 (by decide) ?_
      refine px_icmp_eq (tgt := 37) dX11_copy_24 (by decide) (fun H24 => ?_) (fun H24 => ?_)
      · skip
        have na : S 48 a < 0 := by rw [H24]; decide
        refine px_bipush (v := (-11)) dX11_copy_37 (by decide) ?_
        refine px_iretI dX11_copy_39 rfl ?_
        exact ⟨by unfold f_copy; simp_all [-Int32.not_lt], by unfold g_copy; simp_all [-Int32.not_lt]⟩
      · skip
        have na := hSH.a (by omega) H24
        refine px_aload_n dX11_copy_27 rfl rfl ?_
        refine cx_get (k := 0) (i := 0) (f := 14) dX11_copy_28 gX11_54 rfl Nat.one_pos rfl ?_
        refine px_iload_n dX11_copy_31 rfl rfl ?_
        refine cx_iald (k := 26) (i := 0) (r := 48) (b) dX11_copy_32 rfl Nat.one_pos rfl (by omega) (by decide) ?_
        refine px_iconst (v := (-1)) dX11_copy_33 (by decide) ?_
        refine px_icmp_ne (tgt := 40) dX11_copy_34 (by decide) (fun H34 => ?_) (fun H34 => ?_)
        · skip
          have nb := hSH.a (by omega) H34
          refine px_aload_n dX11_copy_40 rfl rfl ?_
          refine cx_get (k := 0) (i := 0) (f := 14) dX11_copy_41 gX11_54 rfl Nat.one_pos rfl ?_
          refine px_iload_n dX11_copy_44 rfl rfl ?_
          refine cx_iald (k := 26) (i := 0) (r := 48) (a) dX11_copy_45 rfl Nat.one_pos rfl (by omega) (by decide) ?_
          refine px_aload_n dX11_copy_46 rfl rfl ?_
          refine cx_get (k := 0) (i := 0) (f := 14) dX11_copy_47 gX11_54 rfl Nat.one_pos rfl ?_
          refine px_iload_n dX11_copy_50 rfl rfl ?_
          refine cx_iald (k := 26) (i := 0) (r := 48) (b) dX11_copy_51 rfl Nat.one_pos rfl (by omega) (by decide) ?_
          refine px_icmp_eq (tgt := 58) dX11_copy_52 (by decide) (fun H52 => ?_) (fun H52 => ?_)
          · skip
            refine px_aload_n dX11_copy_58 rfl rfl ?_
            refine px_iload_n dX11_copy_59 rfl rfl ?_
            refine px_iload_n dX11_copy_60 rfl rfl ?_
            refine px_iload dX11_copy_61 rfl ?_
            refine cx_callI3 (k := 0) (i := 0) dX11_copy_63 lX11_275 rfl Nat.one_pos rfl (c_X11_hasRun G m M0 Q S a i nn (by omega)) (by decide) (Nat.le_of_ble_eq_true rfl) (fun x63 S63 Q63 => ?_)
            obtain ⟨rfl, e63⟩ := Q63
            obtain rfl := e63.symm
            refine px_if_eq (tgt := 81) dX11_copy_66 (by decide) (fun H66 => ?_) (fun H66 => ?_)
            · skip
              rw [hr_iff ewa hwa] at H66
              refine px_bipush (v := (-12)) dX11_copy_81 (by decide) ?_
              refine px_iretI dX11_copy_83 rfl ?_
              have hbig : nn < 0 ∨ i < 0 ∨ jj < 0 ∨ (S 49 a).toInt < i.toInt + nn.toInt ∨ (S 49 b).toInt < jj.toInt + nn.toInt := by first | (rcases H66 with z | z | z <;> simp [z]; done) | (rcases H78 with z | z | z <;> simp [z]; done)
              have hnm : ¬ (S 48 a < 0 ∨ S 48 b < 0) := by rintro (z | z); exact na z; exact nb z
              exact ⟨by rw [f_copy, ta, tb_, if_neg (by rintro (z | z); exact H4 z; exact H11 z), if_neg hnm, if_neg (not_not_intro H52), if_pos hbig], by rw [g_copy, ta, tb_, if_neg (by rintro (z | z); exact H4 z; exact H11 z), if_neg hnm, if_neg (not_not_intro H52), if_pos hbig]⟩
            · skip
              rw [hr_iff ewa hwa] at H66
              refine px_aload_n dX11_copy_69 rfl rfl ?_
              refine px_iload_n dX11_copy_70 rfl rfl ?_
              refine px_iload dX11_copy_71 rfl ?_
              refine px_iload dX11_copy_73 rfl ?_
              refine cx_callI3 (k := 0) (i := 0) dX11_copy_75 lX11_275 rfl Nat.one_pos rfl (c_X11_hasRun G m M0 Q S b jj nn (by omega)) (by decide) (Nat.le_of_ble_eq_true rfl) (fun x75 S75 Q75 => ?_)
              obtain ⟨rfl, e75⟩ := Q75
              obtain rfl := e75.symm
              refine px_if_ne (tgt := 84) dX11_copy_78 (by decide) (fun H78 => ?_) (fun H78 => ?_)
              · skip
                rw [hr_iff ewb hwb] at H78
                have n1 : ¬ i < 0 := fun q => H66 (Or.inl q)
                have n2 : ¬ nn < 0 := fun q => H66 (Or.inr (Or.inl q))
                have n3 : ¬ jj < 0 := fun q => H78 (Or.inl q)
                have n4 : ¬ (S 49 a).toInt < i.toInt + nn.toInt := fun q => H66 (Or.inr (Or.inr q))
                have n5 : ¬ (S 49 b).toInt < jj.toInt + nn.toInt := fun q => H78 (Or.inr (Or.inr q))
                rw [ewa, nI_toInt' (by omega)] at n4
                rw [ewb, nI_toInt' (by omega)] at n5
                have p1 := i0_ge.mp n1
                have p2 := i0_ge.mp n2
                have p3 := i0_ge.mp n3
                obtain ⟨i0, ei, ti⟩ : ∃ k : Nat, i = nI k ∧ i.toInt = k := ⟨i.toInt.toNat, by rw [i_eq, nI_toInt' (by omega)]; omega, by omega⟩
                obtain ⟨j0, ej, tj⟩ : ∃ k : Nat, jj = nI k ∧ jj.toInt = k := ⟨jj.toInt.toNat, by rw [i_eq, nI_toInt' (by omega)]; omega, by omega⟩
                obtain ⟨q, eq, tq⟩ : ∃ k : Nat, nn = nI k ∧ nn.toInt = k := ⟨nn.toInt.toNat, by rw [i_eq, nI_toInt' (by omega)]; omega, by omega⟩
                rw [ti, tq] at n4
                rw [tj, tq] at n5
                subst ei; subst ej; subst eq
                refine px_aload_n dX11_copy_84 rfl rfl ?_
                refine cx_get (k := 0) (i := 0) (f := 13) dX11_copy_85 gX11_51 rfl Nat.one_pos rfl ?_
                refine px_iload_n dX11_copy_88 rfl rfl ?_
                refine cx_aald (k := 24) (i := 0) (a) dX11_copy_89 rfl Nat.one_pos rfl rfl rfl (by omega) (by decide) rfl ?_
                refine px_iload_n dX11_copy_90 rfl rfl ?_
                refine px_aload_n dX11_copy_91 rfl rfl ?_
                refine cx_get (k := 0) (i := 0) (f := 13) dX11_copy_92 gX11_51 rfl Nat.one_pos rfl ?_
                refine px_iload_n dX11_copy_95 rfl rfl ?_
                refine cx_aald (k := 24) (i := 0) (b) dX11_copy_96 rfl Nat.one_pos rfl rfl rfl (by omega) (by decide) rfl ?_
                refine px_iload dX11_copy_97 rfl ?_
                refine px_iload dX11_copy_99 rfl ?_
                refine cx_copy (k0 := 25) (i0 := a) (k := 25) (i := b) (r := 110 + b) i0 j0 q dX11_copy_101 cp_X11_278 (by omega) rfl (show a < 4 by omega) (fun _ _ => rfl) (show b < 4 by omega) (by omega) (fun j => (ow_100 (by omega) j).2) rfl rfl rfl (by omega) (by omega) (by decide) (Nat.le_of_ble_eq_true rfl) ?_
                refine px_iload dX11_copy_104 rfl ?_
                refine px_iretI dX11_copy_106 rfl ?_
                have ci : (nI i0).toNatClampNeg = i0 := nI_clamp (by omega)
                have cj : (nI j0).toNatClampNeg = j0 := nI_clamp (by omega)
                have cq : (nI q).toNatClampNeg = q := nI_clamp (by omega)
                have hbig : ¬ (nI q < 0 ∨ nI i0 < 0 ∨ nI j0 < 0 ∨ (S 49 a).toInt < (nI i0).toInt + (nI q).toInt ∨ (S 49 b).toInt < (nI j0).toInt + (nI q).toInt) := by
                  rw [ewa, ewb, nI_toInt' (by omega), nI_toInt' (by omega), nI_toInt' (by omega), nI_toInt' (by omega), nI_toInt' (by omega)]
                  rintro (z | z | z | z | z)
                  · exact n2 z
                  · exact n1 z
                  · exact n3 z
                  · omega
                  · omega
                have hnm : ¬ (S 48 a < 0 ∨ S 48 b < 0) := by rintro (z | z); exact na z; exact nb z
                refine ⟨?_, ?_⟩
                · rw [f_copy, ta, tb_, if_neg (by rintro (z | z); exact H4 z; exact H11 z), if_neg hnm, if_neg (not_not_intro H52), if_neg hbig]
                · rw [g_copy, ta, tb_, if_neg (by rintro (z | z); exact H4 z; exact H11 z), if_neg hnm, if_neg (not_not_intro H52), if_neg hbig, ci, cj, cq]
              · skip
                rw [hr_iff ewb hwb] at H78
                refine px_bipush (v := (-12)) dX11_copy_81 (by decide) ?_
                refine px_iretI dX11_copy_83 rfl ?_
                have hbig : nn < 0 ∨ i < 0 ∨ jj < 0 ∨ (S 49 a).toInt < i.toInt + nn.toInt ∨ (S 49 b).toInt < jj.toInt + nn.toInt := by first | (rcases H66 with z | z | z <;> simp [z]; done) | (rcases H78 with z | z | z <;> simp [z]; done)
                have hnm : ¬ (S 48 a < 0 ∨ S 48 b < 0) := by rintro (z | z); exact na z; exact nb z
                exact ⟨by rw [f_copy, ta, tb_, if_neg (by rintro (z | z); exact H4 z; exact H11 z), if_neg hnm, if_neg (not_not_intro H52), if_pos hbig], by rw [g_copy, ta, tb_, if_neg (by rintro (z | z); exact H4 z; exact H11 z), if_neg hnm, if_neg (not_not_intro H52), if_pos hbig]⟩
          · skip
            refine px_bipush (v := (-13)) dX11_copy_55 (by decide) ?_
            refine px_iretI dX11_copy_57 rfl ?_
            exact ⟨by unfold f_copy; simp_all [-Int32.not_lt], by unfold g_copy; simp_all [-Int32.not_lt]⟩
        · skip
          have nb : S 48 b < 0 := by rw [H34]; decide
          refine px_bipush (v := (-11)) dX11_copy_37 (by decide) ?_
          refine px_iretI dX11_copy_39 rfl ?_
          exact ⟨by unfold f_copy; simp_all [-Int32.not_lt], by unfold g_copy; simp_all [-Int32.not_lt]⟩
    · skip
      refine px_bipush (v := (-2)) dX11_copy_14 (by decide) ?_
      refine px_iretI dX11_copy_16 rfl ?_
      exact ⟨by unfold f_copy; simp_all [-Int32.not_lt], by unfold g_copy; simp_all [-Int32.not_lt]⟩
set_option maxHeartbeats 4000000 in
set_option maxRecDepth 100000 in
theorem lp_hksC (G : Gt) (m : Nat → Prop) (M0 : Nat → va_E) (Q : Qt) (S : MS) (j N w : Nat) (srt z : Int32) (R : Int32 × MS) (hj : j ≤ 3) (hN : N ≤ 12) (hw : w ≤ 40) (ew : S 49 j = nI w) (hEQ : ∀ i, i < w → S (110 + j) i = S 50 (40 * j + i)) : ∀ (kk i : Nat) (T : MS) (c : Int32) (n : Nat) (l7 l8 : Option Value), i ≤ N → N + 1 ≤ i + kk → T 1 0 = nI n → n ≤ 6 → T 49 = S 49 → T 50 = S 50 → T (110 + j) = S (110 + j) → (i = 0 ∨ (0 ≤ z.toInt + 3 * (i : Int) - 3 ∧ z.toInt + 3 * (i : Int) - 3 ≤ 37)) → hkG j z.toInt (N - i) i c T = R → PX G (CPic G m M0 Q) 3 Y11_hanks 62 [some (.ref (Q.1 0 0)), some (.int (nI j)), some (.int srt), some (.int z), some (.int (nI N)), some (.int c), some (.int (nI i)), l7, l8] [] T 0 0 (ri (fun x S' => x = R.1 ∧ S' = R.2)) := by
  intro kk
  induction kk with
  | zero => intro i T c n l7 l8 h1 h2; omega
  | succ kk ih =>
    intro i T c n l7 l8 h1 h2 hH hn h49 h50 h110 hz hR
    refine px_iload dX11_hanks_62 rfl ?_
    refine px_iload dX11_hanks_64 rfl ?_
    refine px_icmp_ge (tgt := 137) dX11_hanks_66 (by decide) (fun H66 => ?_) (fun H66 => ?_)
    · skip
      have eN : i = N := by have := ge_n (a := i) (b := N) (by omega) (by omega) H66; omega
      subst eN
      rw [Nat.sub_self] at hR
      refine px_iload dX11_hanks_137 rfl ?_
      refine px_iretI dX11_hanks_139 rfl ?_
      exact ⟨by rw [← hR] <;> rfl, by rw [← hR] <;> rfl⟩
    · skip
      have lN : i < N := lt_n (a := i) (b := N) (by omega) (by omega) H66
      obtain ⟨d, ed⟩ : ∃ d, N - i = d + 1 := ⟨N - i - 1, by omega⟩
      rw [ed] at hR
      have r2 := Int32.le_toInt z
      have r3 := Int32.toInt_lt z
      have eat : (z + 3 * nI i).toInt = z.toInt + 3 * (i : Int) := by
        rw [show (3 : Int32) * nI i = nI (3 * i) from pk_mul 3 i, fb_addI (by rw [nI_toInt' (by omega)]; omega) (by rw [nI_toInt' (by omega)]; omega), nI_toInt' (by omega)]
        omega
      rw [hkG] at hR
      refine px_iload_n dX11_hanks_69 rfl rfl ?_
      refine px_iconst (v := 3) dX11_hanks_70 (by decide) ?_
      refine px_iload dX11_hanks_71 rfl ?_
      refine px_imul dX11_hanks_73 ?_
      refine px_iadd dX11_hanks_74 ?_
      refine px_istore_7 dX11_hanks_75 (by decide) rfl ?_
      refine px_aload_n dX11_hanks_77 rfl rfl ?_
      refine px_iload_n dX11_hanks_78 rfl rfl ?_
      refine px_iload dX11_hanks_79 rfl ?_
      refine px_iconst (v := 3) dX11_hanks_81 (by decide) ?_
      refine cx_callI3 (k := 0) (i := 0) dX11_hanks_82 lX11_275 rfl Nat.one_pos rfl (c_X11_hasRun G m M0 Q T j (z + 3 * nI i) 3 (by omega)) (by decide) (Nat.le_of_ble_eq_true rfl) (fun x82 S82 Q82 => ?_)
      obtain ⟨rfl, e82⟩ := Q82
      obtain rfl := e82.symm
      refine px_if_ne (tgt := 91) dX11_hanks_85 (by decide) (fun H85 => ?_) (fun H85 => ?_)
      · skip
        rw [hr_iff (by rw [h49]; exact ew) hw, eat, i_lt, eat, show (0 : Int32).toInt = 0 from rfl, show (3 : Int32).toInt = 3 from rfl] at H85
        rw [if_neg (by rintro (q | q); exact H85 (Or.inl q); exact H85 (Or.inr (Or.inr (by omega))))] at hR
        have hq0 : 0 ≤ z.toInt + 3 * (i : Int) := by have := fun q => H85 (Or.inl q); omega
        have hq3 : z.toInt + 3 * (i : Int) + 3 ≤ (w : Int) := by
          refine Int.not_lt.mp fun q => H85 (Or.inr (Or.inr ?_))
          rw [h49, ew, nI_toInt' (by omega)]
          exact q
        obtain ⟨q, hq⟩ : ∃ q : Nat, z.toInt + 3 * (i : Int) = q := ⟨(z.toInt + 3 * (i : Int)).toNat, by omega⟩
        rw [hq, Int.toNat_natCast] at hR
        have eq1 : z + 3 * nI i = nI q := by rw [i_eq, eat, nI_toInt' (by omega)]; exact hq
        refine px_aload_n dX11_hanks_91 rfl rfl ?_
        refine cx_get (k := 0) (i := 0) (f := 13) dX11_hanks_92 gX11_51 rfl Nat.one_pos rfl ?_
        refine px_iload_n dX11_hanks_95 rfl rfl ?_
        refine cx_aald (k := 24) (i := 0) (j) dX11_hanks_96 rfl Nat.one_pos rfl rfl rfl (by omega) (by decide) rfl ?_
        refine px_astore_8 dX11_hanks_97 (by decide) rfl ?_
        refine px_aload_n dX11_hanks_99 rfl rfl ?_
        refine cx_get (k := 0) (i := 0) (f := 0) dX11_hanks_100 gX11_10 rfl Nat.one_pos rfl ?_
        refine px_aload dX11_hanks_103 rfl ?_
        refine px_iload dX11_hanks_105 rfl ?_
        refine cx_iald (k := 25) (i := j) (r := (110 + j)) (q) dX11_hanks_107 rfl (show j < 4 by omega) eq1 (by omega) (by decide) ?_
        refine px_aload dX11_hanks_108 rfl ?_
        refine px_iload dX11_hanks_110 rfl ?_
        refine px_iconst (v := 1) dX11_hanks_112 (by decide) ?_
        refine px_iadd dX11_hanks_113 ?_
        refine cx_iald (k := 25) (i := j) (r := (110 + j)) (q + 1) dX11_hanks_114 rfl (show j < 4 by omega) (by rw [eq1, nI_1]) (by omega) (by decide) ?_
        refine px_aload dX11_hanks_115 rfl ?_
        refine px_iload dX11_hanks_117 rfl ?_
        refine px_iconst (v := 2) dX11_hanks_119 (by decide) ?_
        refine px_iadd dX11_hanks_120 ?_
        refine cx_iald (k := 25) (i := j) (r := (110 + j)) (q + 2) dX11_hanks_121 rfl (show j < 4 by omega) (by rw [eq1]; exact nI_add q 2) (by omega) (by decide) ?_
        refine cx_callI3 (k := 1) (i := 0) dX11_hanks_122 lX11_73 rfl Nat.one_pos rfl (c_X10_addHank G m M0 Q T _ _ _ n hH hn) (by decide) (Nat.le_of_ble_eq_true rfl) (fun x122 S122 Q122 => ?_)
        obtain ⟨ex122, eS122⟩ := Q122
        obtain ⟨n', hn', hH'⟩ := f_hank_h (o := T (110 + j) q) (s := T (110 + j) (q + 1)) (v := T (110 + j) (q + 2)) hH hn
        have g49 : S122 49 = S 49 := by rw [eS122, f_hank_ne (by decide) (by decide) (by decide) (by decide), h49]
        have g50 : S122 50 = S 50 := by rw [eS122, f_hank_ne (by decide) (by decide) (by decide) (by decide), h50]
        have g110 : S122 (110 + j) = S (110 + j) := by rw [eS122, f_hank_ne (by omega) (by omega) (by omega) (by omega), h110]
        have gh : S122 1 0 = nI n' := by rw [eS122]; exact hH'
        rw [h50, Nat.add_assoc (40 * j) q 1, Nat.add_assoc (40 * j) q 2, ← hEQ q (by omega), ← hEQ (q + 1) (by omega), ← hEQ (q + 2) (by omega), ← h110, ← ex122, ← eS122] at hR
        refine px_if_lt (tgt := 131) dX11_hanks_125 (by decide) (fun H125 => ?_) (fun H125 => ?_)
        · skip
          rw [if_pos H125] at hR
          refine px_iinc_6 (v := 1) dX11_hanks_131 (by decide) (by decide) rfl ?_
          refine px_goto (tgt := 62) dX11_hanks_134 (by decide) ?_
          refine px_lw (ls' := [some (.ref (Q.1 0 0)), some (.int (nI j)), some (.int srt), some (.int z), some (.int (nI N)), some (.int _), some (.int (nI (i + 1))), some (.int (z + 3 * nI i)), some (.ref (Q.1 25 j))]) (by simp [LW, nI_1] <;> rfl) (ih (i + 1) S122 _ n' _ _ (by omega) (by omega) gh hn' g49 g50 g110 (Or.inr (by omega)) (by rw [show N - (i + 1) = d by omega]; exact hR))
        · skip
          rw [if_neg H125] at hR
          refine px_iinc_5 (v := 1) dX11_hanks_128 (by decide) (by decide) rfl ?_
          refine px_iinc_6 (v := 1) dX11_hanks_131 (by decide) (by decide) rfl ?_
          refine px_goto (tgt := 62) dX11_hanks_134 (by decide) ?_
          refine px_lw (ls' := [some (.ref (Q.1 0 0)), some (.int (nI j)), some (.int srt), some (.int z), some (.int (nI N)), some (.int _), some (.int (nI (i + 1))), some (.int (z + 3 * nI i)), some (.ref (Q.1 25 j))]) (by simp [LW, nI_1] <;> rfl) (ih (i + 1) S122 _ n' _ _ (by omega) (by omega) gh hn' g49 g50 g110 (Or.inr (by omega)) (by rw [show N - (i + 1) = d by omega]; exact hR))
      · skip
        rw [hr_iff (by rw [h49]; exact ew) hw, eat, i_lt, eat, show (0 : Int32).toInt = 0 from rfl, show (3 : Int32).toInt = 3 from rfl] at H85
        rw [if_pos (by rcases H85 with q | q | q; exact Or.inl q; exact absurd q (by decide); exact Or.inr (by omega))] at hR
        refine px_bipush (v := (-12)) dX11_hanks_88 (by decide) ?_
        refine px_iretI dX11_hanks_90 rfl ?_
        exact ⟨by rw [← hR] <;> rfl, by rw [← hR] <;> rfl⟩
set_option maxHeartbeats 4000000 in
set_option maxRecDepth 100000 in
theorem c_X11_hanks (G : Gt) (m : Nat → Prop) (M0 : Nat → va_E) (Q : Qt) (S : MS) (s srt z nn : Int32) (n : Nat) (hSH : SHI S) (hH : S 1 0 = nI n) (hn : n ≤ 6) : PC G (CPic G m M0 Q) 3 Y11_hanks [.ref (Q.1 0 0), .int s, .int srt, .int z, .int nn] S 0 0 (ri (fun x S' => x = (f_hanks S s srt z nn).1 ∧ S' = (f_hanks S s srt z nn).2)) := by
  refine pc_of (ls := [some (.ref (Q.1 0 0)), some (.int s), some (.int srt), some (.int z), some (.int nn), none, none, none, none]) (by decide +kernel) rfl (Nat.le_of_ble_eq_true rfl) ?_
  refine px_iload_n dX11_hanks_0 rfl rfl ?_
  refine px_pure1 dX11_hanks_1 lX11_263 (c_X11_isSheet G _) (by decide) (Nat.le_of_ble_eq_true rfl) ?_
  refine px_if_eq (tgt := 27) dX11_hanks_4 (by decide) (fun H4 => ?_) (fun H4 => ?_)
  · skip
    refine px_bipush (v := (-2)) dX11_hanks_27 (by decide) ?_
    refine px_iretI dX11_hanks_29 rfl ?_
    exact ⟨by unfold f_hanks; simp_all [-Int32.not_lt], by unfold f_hanks; simp_all [-Int32.not_lt]⟩
  · skip
    refine px_iload_n dX11_hanks_7 rfl rfl ?_
    refine px_iconst (v := 0) dX11_hanks_8 (by decide) ?_
    refine px_iconst (v := 2) dX11_hanks_9 (by decide) ?_
    refine px_pure3 dX11_hanks_10 lX11_81 (c_X11_isWithin G _ _ _) (by decide) (Nat.le_of_ble_eq_true rfl) ?_
    refine px_if_eq (tgt := 27) dX11_hanks_13 (by decide) (fun H13 => ?_) (fun H13 => ?_)
    · skip
      refine px_bipush (v := (-2)) dX11_hanks_27 (by decide) ?_
      refine px_iretI dX11_hanks_29 rfl ?_
      exact ⟨by unfold f_hanks; simp_all [-Int32.not_lt], by unfold f_hanks; simp_all [-Int32.not_lt]⟩
    · skip
      refine px_iload dX11_hanks_16 rfl ?_
      refine px_iconst (v := 0) dX11_hanks_18 (by decide) ?_
      refine px_bipush (v := 12) dX11_hanks_19 (by decide) ?_
      refine px_pure3 dX11_hanks_21 lX11_81 (c_X11_isWithin G _ _ _) (by decide) (Nat.le_of_ble_eq_true rfl) ?_
      refine px_if_ne (tgt := 30) dX11_hanks_24 (by decide) (fun H24 => ?_) (fun H24 => ?_)
      · skip
        obtain ⟨j, hj, ej, tj⟩ := in_ix (n := 3) (by decide) H4
        subst ej
        obtain ⟨N, hN, eN, tN⟩ := in_ix (n := 12) (by decide) H24
        subst eN
        obtain ⟨w, hw, ew, hEQ⟩ := (hSH j (by omega)).2
        refine px_aload_n dX11_hanks_30 rfl rfl ?_
        refine cx_get (k := 0) (i := 0) (f := 14) dX11_hanks_31 gX11_54 rfl Nat.one_pos rfl ?_
        refine px_iload_n dX11_hanks_34 rfl rfl ?_
        refine cx_iald (k := 26) (i := 0) (r := 48) (j) dX11_hanks_35 rfl Nat.one_pos rfl (by omega) (by decide) ?_
        refine px_iconst (v := (-1)) dX11_hanks_36 (by decide) ?_
        refine px_icmp_ne (tgt := 43) dX11_hanks_37 (by decide) (fun H37 => ?_) (fun H37 => ?_)
        · skip
          have na := hSH.a (by omega) H37
          refine px_aload_n dX11_hanks_43 rfl rfl ?_
          refine cx_get (k := 0) (i := 0) (f := 14) dX11_hanks_44 gX11_54 rfl Nat.one_pos rfl ?_
          refine px_iload_n dX11_hanks_47 rfl rfl ?_
          refine cx_iald (k := 26) (i := 0) (r := 48) (j) dX11_hanks_48 rfl Nat.one_pos rfl (by omega) (by decide) ?_
          refine px_iload_n dX11_hanks_49 rfl rfl ?_
          refine px_icmp_eq (tgt := 56) dX11_hanks_50 (by decide) (fun H50 => ?_) (fun H50 => ?_)
          · skip
            refine px_iconst (v := 0) dX11_hanks_56 (by decide) ?_
            refine px_istore_5 dX11_hanks_57 (by decide) rfl ?_
            refine px_iconst (v := 0) dX11_hanks_59 (by decide) ?_
            refine px_istore_6 dX11_hanks_60 (by decide) rfl ?_
            refine px_lw (ls' := [some (.ref (Q.1 0 0)), some (.int (nI j)), some (.int srt), some (.int z), some (.int (nI N)), some (.int 0), some (.int (nI 0)), none, none]) (by simp [LW] <;> rfl) (px_post (Post' := ri (fun x S' => x = (hkG j z.toInt N 0 0 S).1 ∧ S' = (hkG j z.toInt N 0 0 S).2)) ?_ (lp_hksC G m M0 Q S j N w srt z _ hj hN hw ew (hEQ H37) (N + 1) 0 S 0 n none none (by omega) (by omega) hH hn rfl rfl rfl (Or.inl rfl) rfl))
            intro r S' h
            refine ⟨h.choose, h.choose_spec.1, ?_⟩
            have hcs := h.choose_spec.2
            rw [f_hanks, tj, tN, if_neg (by rintro (q | q | q); exact H4 q; exact H13 q; exact H24 q), if_neg (fun q => q.2 H50), if_neg na]
            exact hcs
          · skip
            refine px_bipush (v := (-13)) dX11_hanks_53 (by decide) ?_
            refine px_iretI dX11_hanks_55 rfl ?_
            exact ⟨by unfold f_hanks; simp_all [-Int32.not_lt], by unfold f_hanks; simp_all [-Int32.not_lt]⟩
        · skip
          have na : S 48 j < 0 := by rw [H37]; decide
          refine px_bipush (v := (-11)) dX11_hanks_40 (by decide) ?_
          refine px_iretI dX11_hanks_42 rfl ?_
          exact ⟨by unfold f_hanks; simp_all [-Int32.not_lt], by unfold f_hanks; simp_all [-Int32.not_lt]⟩
      · skip
        refine px_bipush (v := (-2)) dX11_hanks_27 (by decide) ?_
        refine px_iretI dX11_hanks_29 rfl ?_
        exact ⟨by unfold f_hanks; simp_all [-Int32.not_lt], by unfold f_hanks; simp_all [-Int32.not_lt]⟩
