/-! THE CLASS: the reader's small methods -/
def mBl (x : Int32) : Int32 := if x = 32 ∨ x = 10 then 1 else 0
theorem u2s {S : MS} {r j : Nat} {x : Int32} : up2 S r j x r j = x := by simp [up2, upd]
theorem u2u {S : MS} {r j : Nat} {x y : Int32} : up2 (up2 S r j x) r j y = up2 S r j y := by
  funext q p
  by_cases e : q = r
  · subst e
    rw [up2_eq, up2_eq, up2_eq]
    by_cases e2 : p = j
    · subst e2; rw [pk_us, pk_us]
    · rw [pk_un e2, pk_un e2, pk_un e2]
  · rw [up2_ne e, up2_ne e, up2_ne e]
theorem u2i {S : MS} {r j : Nat} {x : Int32} (h : S r j = x) : up2 S r j x = S := by
  funext q p
  by_cases e : q = r
  · subst e
    rw [up2_eq]
    by_cases e2 : p = j
    · subst e2; rw [pk_us, h]
    · rw [pk_un e2]
  · rw [up2_ne e]
theorem mBl_b {f : Nat → Int32} {i : Nat} : mBl (f i) = 0 ↔ ¬ blk f i = true := by
  unfold mBl blk
  by_cases h : f i = 32 ∨ f i = 10
  · simp [h]
  · simp [h]
theorem dgt_b {f : Nat → Int32} {i : Nat} : mIn (f i) 48 57 = 0 ↔ ¬ dgt f i = true := by
  unfold dgt
  simp
theorem ltr_b {f : Nat → Int32} {i : Nat} : mIn (f i) 97 122 = 0 ↔ ¬ ltr f i = true := by
  unfold ltr
  simp
set_option maxHeartbeats 400000 in
set_option maxRecDepth 100000 in
theorem c_X7_isDigit (G : Gt) (v : Int32)  : PS G 1 Y7_isDigit [.int v] (mIn v 48 57) := by
  refine ps_ofp (ls := [some (.int v)]) (by decide +kernel) rfl (Nat.le_of_ble_eq_true rfl) (fun h => ?_)
  refine px_iload_n dX7_isDigit_0 rfl rfl ?_
  refine px_bipush (v := 48) dX7_isDigit_1 (by decide) ?_
  refine px_icmp_lt (tgt := 16) dX7_isDigit_3 (by decide) (fun H3 => ?_) (fun H3 => ?_)
  · skip
    refine px_iconst (v := 0) dX7_isDigit_16 (by decide) ?_
    refine px_iretZ dX7_isDigit_17 rfl (by first | rfl | decide) ?_
    exact ⟨by first | rfl | (simp [mIn, *]; done) | (simp_all [mIn]; done), rfl⟩
  · skip
    refine px_iload_n dX7_isDigit_6 rfl rfl ?_
    refine px_bipush (v := 57) dX7_isDigit_7 (by decide) ?_
    refine px_icmp_gt (tgt := 16) dX7_isDigit_9 (by decide) (fun H9 => ?_) (fun H9 => ?_)
    · skip
      refine px_iconst (v := 0) dX7_isDigit_16 (by decide) ?_
      refine px_iretZ dX7_isDigit_17 rfl (by first | rfl | decide) ?_
      exact ⟨by first | rfl | (simp [mIn, *]; done) | (simp_all [mIn]; done), rfl⟩
    · skip
      refine px_iconst (v := 1) dX7_isDigit_12 (by decide) ?_
      refine px_goto (tgt := 17) dX7_isDigit_13 (by decide) ?_
      refine px_iretZ dX7_isDigit_17 rfl (by first | rfl | decide) ?_
      exact ⟨by first | rfl | (simp [mIn, *]; done) | (simp_all [mIn]; done), rfl⟩
set_option maxHeartbeats 400000 in
set_option maxRecDepth 100000 in
theorem c_X7_isLetter (G : Gt) (v : Int32)  : PS G 1 Y7_isLetter [.int v] (mIn v 97 122) := by
  refine ps_ofp (ls := [some (.int v)]) (by decide +kernel) rfl (Nat.le_of_ble_eq_true rfl) (fun h => ?_)
  refine px_iload_n dX7_isLetter_0 rfl rfl ?_
  refine px_bipush (v := 97) dX7_isLetter_1 (by decide) ?_
  refine px_icmp_lt (tgt := 16) dX7_isLetter_3 (by decide) (fun H3 => ?_) (fun H3 => ?_)
  · skip
    refine px_iconst (v := 0) dX7_isLetter_16 (by decide) ?_
    refine px_iretZ dX7_isLetter_17 rfl (by first | rfl | decide) ?_
    exact ⟨by first | rfl | (simp [mIn, *]; done) | (simp_all [mIn]; done), rfl⟩
  · skip
    refine px_iload_n dX7_isLetter_6 rfl rfl ?_
    refine px_bipush (v := 122) dX7_isLetter_7 (by decide) ?_
    refine px_icmp_gt (tgt := 16) dX7_isLetter_9 (by decide) (fun H9 => ?_) (fun H9 => ?_)
    · skip
      refine px_iconst (v := 0) dX7_isLetter_16 (by decide) ?_
      refine px_iretZ dX7_isLetter_17 rfl (by first | rfl | decide) ?_
      exact ⟨by first | rfl | (simp [mIn, *]; done) | (simp_all [mIn]; done), rfl⟩
    · skip
      refine px_iconst (v := 1) dX7_isLetter_12 (by decide) ?_
      refine px_goto (tgt := 17) dX7_isLetter_13 (by decide) ?_
      refine px_iretZ dX7_isLetter_17 rfl (by first | rfl | decide) ?_
      exact ⟨by first | rfl | (simp [mIn, *]; done) | (simp_all [mIn]; done), rfl⟩
set_option maxHeartbeats 400000 in
set_option maxRecDepth 100000 in
theorem c_X7_isBlank (G : Gt) (v : Int32)  : PS G 1 Y7_isBlank [.int v] (mBl v) := by
  refine ps_ofp (ls := [some (.int v)]) (by decide +kernel) rfl (Nat.le_of_ble_eq_true rfl) (fun h => ?_)
  refine px_iload_n dX7_isBlank_0 rfl rfl ?_
  refine px_bipush (v := 32) dX7_isBlank_1 (by decide) ?_
  refine px_icmp_eq (tgt := 12) dX7_isBlank_3 (by decide) (fun H3 => ?_) (fun H3 => ?_)
  · skip
    refine px_iconst (v := 1) dX7_isBlank_12 (by decide) ?_
    refine px_goto (tgt := 17) dX7_isBlank_13 (by decide) ?_
    refine px_iretZ dX7_isBlank_17 rfl (by first | rfl | decide) ?_
    exact ⟨by first | rfl | (simp [mBl, *]; done) | (simp_all [mBl]; done), rfl⟩
  · skip
    refine px_iload_n dX7_isBlank_6 rfl rfl ?_
    refine px_bipush (v := 10) dX7_isBlank_7 (by decide) ?_
    refine px_icmp_ne (tgt := 16) dX7_isBlank_9 (by decide) (fun H9 => ?_) (fun H9 => ?_)
    · skip
      refine px_iconst (v := 0) dX7_isBlank_16 (by decide) ?_
      refine px_iretZ dX7_isBlank_17 rfl (by first | rfl | decide) ?_
      exact ⟨by first | rfl | (simp [mBl, *]; done) | (simp_all [mBl]; done), rfl⟩
    · skip
      refine px_iconst (v := 1) dX7_isBlank_12 (by decide) ?_
      refine px_goto (tgt := 17) dX7_isBlank_13 (by decide) ?_
      refine px_iretZ dX7_isBlank_17 rfl (by first | rfl | decide) ?_
      exact ⟨by first | rfl | (simp [mBl, *]; done) | (simp_all [mBl]; done), rfl⟩
set_option maxHeartbeats 400000 in
set_option maxRecDepth 100000 in
theorem c_X7_emit (G : Gt) (m : Nat → Prop) (M0 : Nat → va_E) (Q : Qt) (S : MS) (v : Int32) (k : Nat) (hk : S 62 6 = nI k) (hk1 : k ≤ 160) : PC G (CPic G m M0 Q) 1 Y7_emit [.ref (Q.1 9 0), .int v] S 0 0 (rv (fun S' => S' = if k < 160 then up2 (up2 S 63 k v) 62 6 (nI (k + 1)) else S)) := by
  refine pc_of (ls := [some (.ref (Q.1 9 0)), some (.int v)]) (by decide +kernel) rfl (Nat.le_of_ble_eq_true rfl) ?_
  refine px_aload_n dX7_emit_0 rfl rfl ?_
  refine cx_get (k := 9) (i := 0) (f := 9) dX7_emit_1 gX7_32 rfl Nat.one_pos rfl ?_
  refine px_aload_n dX7_emit_4 rfl rfl ?_
  refine cx_get (k := 9) (i := 0) (f := 8) dX7_emit_5 gX7_15 rfl Nat.one_pos rfl ?_
  refine cx_alen (k := 11) (i := 0) (t := 0) (n := 0) (v := (nI 160)) dX7_emit_8 rfl Nat.one_pos rfl rfl ?_
  refine px_icmp_ge (tgt := 32) dX7_emit_9 (by decide) (fun H9 => ?_) (fun H9 => ?_)
  · skip
    rw [hk] at H9
    have nk : ¬ k < 160 := by have := ge_n (a := k) (b := 160) (by omega) (by omega) H9; omega
    refine px_return dX7_emit_32 rfl ?_
    first | exact (if_neg nk).symm | (rw [if_pos lk, show up2 S 63 k v 62 6 = nI k from hk, nI_1])
  · skip
    rw [hk] at H9
    have lk : k < 160 := lt_n (a := k) (b := 160) (by omega) (by omega) H9
    refine px_aload_n dX7_emit_12 rfl rfl ?_
    refine cx_get (k := 9) (i := 0) (f := 8) dX7_emit_13 gX7_15 rfl Nat.one_pos rfl ?_
    refine px_aload_n dX7_emit_16 rfl rfl ?_
    refine cx_get (k := 9) (i := 0) (f := 9) dX7_emit_17 gX7_32 rfl Nat.one_pos rfl ?_
    refine px_iload_n dX7_emit_20 rfl rfl ?_
    refine cx_iast (k := 11) (i := 0) (r := 63) (k) dX7_emit_21 (fun _ _ => rfl) Nat.one_pos (by decide) rfl hk (by omega) (by decide) ?_
    refine px_aload_n dX7_emit_22 rfl rfl ?_
    refine px_dup dX7_emit_23 rfl ?_
    refine cx_get (k := 9) (i := 0) (f := 9) dX7_emit_24 gX7_32 rfl Nat.one_pos rfl ?_
    refine px_iconst (v := 1) dX7_emit_27 (by decide) ?_
    refine px_iadd dX7_emit_28 ?_
    refine cx_put (k := 9) (i := 0) (f := 9) (r := 62) (j := 6) dX7_emit_29 gX7_32 rfl Nat.one_pos (Nat.le_of_ble_eq_true rfl) (by decide) rfl (cpe_9_9 0 _) rfl rfl ?_
    refine px_return dX7_emit_32 rfl ?_
    first | exact (if_neg nk).symm | (rw [if_pos lk, show up2 S 63 k v 62 6 = nI k from hk, nI_1])
set_option maxHeartbeats 400000 in
set_option maxRecDepth 100000 in
theorem c_X7_fail (G : Gt) (m : Nat → Prop) (M0 : Nat → va_E) (Q : Qt) (S : MS)   : PC G (CPic G m M0 Q) 1 Y7_fail [.ref (Q.1 9 0)] S 0 0 (rv (fun S' => S' = up2 (if S 62 0 = -1 then up2 S 62 0 (S 62 2) else S) 62 1 1)) := by
  refine pc_of (ls := [some (.ref (Q.1 9 0))]) (by decide +kernel) rfl (Nat.le_of_ble_eq_true rfl) ?_
  refine px_aload_n dX7_fail_0 rfl rfl ?_
  refine cx_get (k := 9) (i := 0) (f := 0) dX7_fail_1 gX7_23 rfl Nat.one_pos rfl ?_
  refine px_iconst (v := (-1)) dX7_fail_4 (by decide) ?_
  refine px_icmp_ne (tgt := 16) dX7_fail_5 (by decide) (fun H5 => ?_) (fun H5 => ?_)
  · skip
    refine px_aload_n dX7_fail_16 rfl rfl ?_
    refine px_iconst (v := 1) dX7_fail_17 (by decide) ?_
    refine cx_put (k := 9) (i := 0) (f := 3) (r := 62) (j := 1) dX7_fail_18 gX7_45 rfl Nat.one_pos (Nat.le_of_ble_eq_true rfl) (by decide) rfl (cpe_9_3 0 _) rfl rfl ?_
    refine px_return dX7_fail_21 rfl ?_
    first | (rw [if_pos H5]; done) | (rw [if_neg H5]; done)
  · skip
    refine px_aload_n dX7_fail_8 rfl rfl ?_
    refine px_aload_n dX7_fail_9 rfl rfl ?_
    refine cx_get (k := 9) (i := 0) (f := 4) dX7_fail_10 gX7_95 rfl Nat.one_pos rfl ?_
    refine cx_put (k := 9) (i := 0) (f := 0) (r := 62) (j := 0) dX7_fail_13 gX7_23 rfl Nat.one_pos (Nat.le_of_ble_eq_true rfl) (by decide) rfl (cpe_9_0 0 _) rfl rfl ?_
    refine px_aload_n dX7_fail_16 rfl rfl ?_
    refine px_iconst (v := 1) dX7_fail_17 (by decide) ?_
    refine cx_put (k := 9) (i := 0) (f := 3) (r := 62) (j := 1) dX7_fail_18 gX7_45 rfl Nat.one_pos (Nat.le_of_ble_eq_true rfl) (by decide) rfl (cpe_9_3 0 _) rfl rfl ?_
    refine px_return dX7_fail_21 rfl ?_
    first | (rw [if_pos H5]; done) | (rw [if_neg H5]; done)
set_option maxHeartbeats 400000 in
set_option maxRecDepth 100000 in
theorem lp_tn1 (G : Gt) (m : Nat → Prop) (M0 : Nat → va_E) (Q : Qt) (S : MS) (t E : Nat) (z1 : Option Value) (ht : S 15 0 = nI t) (ht1 : t ≤ 160) (Post : Option Value → MS → Prop) (K : PX G (CPic G m M0 Q) 2 Y7_takeNumber 39 [some (.ref (Q.1 9 0)), z1] [] (up2 S 62 3 (nI E)) 0 0 Post) : ∀ (kk e : Nat), e ≤ t → t + 1 ≤ e + kk → rn (dgt (S 14)) t e = E → PX G (CPic G m M0 Q) 2 Y7_takeNumber 0 [some (.ref (Q.1 9 0)), z1] [] (up2 S 62 3 (nI e)) 0 0 Post := by
  intro kk
  induction kk with
  | zero => intro e h1 h2; omega
  | succ kk ih =>
    intro e h1 h2 hE
    refine px_aload_n dX7_takeNumber_0 rfl rfl ?_
    refine cx_get (k := 9) (i := 0) (f := 5) dX7_takeNumber_1 gX7_26 rfl Nat.one_pos rfl ?_
    refine px_aload_n dX7_takeNumber_4 rfl rfl ?_
    refine cx_get (k := 9) (i := 0) (f := 1) dX7_takeNumber_5 gX7_19 rfl Nat.one_pos rfl ?_
    refine px_icmp_ge (tgt := 39) dX7_takeNumber_8 (by decide) (fun H8 => ?_) (fun H8 => ?_)
    · skip
      rw [u2s, show up2 S 62 3 (nI e) 15 0 = nI t from ht] at H8
      have eq : e = t := by have := ge_n (a := e) (b := t) (by omega) (by omega) H8; omega
      rw [rn_end (by omega)] at hE
      subst hE
      exact K
    · skip
      rw [u2s, show up2 S 62 3 (nI e) 15 0 = nI t from ht] at H8
      have lt : e < t := lt_n (a := e) (b := t) (by omega) (by omega) H8
      refine px_aload_n dX7_takeNumber_11 rfl rfl ?_
      refine cx_get (k := 9) (i := 0) (f := 2) dX7_takeNumber_12 gX7_11 rfl Nat.one_pos rfl ?_
      refine px_aload_n dX7_takeNumber_15 rfl rfl ?_
      refine cx_get (k := 9) (i := 0) (f := 5) dX7_takeNumber_16 gX7_26 rfl Nat.one_pos rfl ?_
      refine cx_bald (k := 10) (i := 0) (r := 14) (e) dX7_takeNumber_19 rfl Nat.one_pos u2s (by omega) (by decide) ?_
      refine px_pure1 dX7_takeNumber_20 lX7_101 (c_X7_isDigit G _) (by decide) (Nat.le_of_ble_eq_true rfl) ?_
      refine px_if_eq (tgt := 39) dX7_takeNumber_23 (by decide) (fun H23 => ?_) (fun H23 => ?_)
      · skip
        rw [show up2 S 62 3 (nI e) 14 = S 14 from rfl, dgt_b] at H23
        rw [rn_no H23] at hE
        subst hE
        exact K
      · skip
        rw [show up2 S 62 3 (nI e) 14 = S 14 from rfl, dgt_b] at H23
        rw [Decidable.not_not] at H23
        rw [rn_go lt H23] at hE
        refine px_aload_n dX7_takeNumber_26 rfl rfl ?_
        refine px_dup dX7_takeNumber_27 rfl ?_
        refine cx_get (k := 9) (i := 0) (f := 5) dX7_takeNumber_28 gX7_26 rfl Nat.one_pos rfl ?_
        refine px_iconst (v := 1) dX7_takeNumber_31 (by decide) ?_
        refine px_iadd dX7_takeNumber_32 ?_
        refine cx_put (k := 9) (i := 0) (f := 5) (r := 62) (j := 3) dX7_takeNumber_33 gX7_26 rfl Nat.one_pos (Nat.le_of_ble_eq_true rfl) (by decide) rfl (cpe_9_5 0 _) rfl rfl ?_
        refine px_goto (tgt := 0) dX7_takeNumber_36 (by decide) ?_
        exact px_S (by rw [u2s, nI_1, u2u]) (ih (e + 1) (by omega) (by omega) hE)
set_option maxHeartbeats 400000 in
set_option maxRecDepth 100000 in
theorem lp_tw1 (G : Gt) (m : Nat → Prop) (M0 : Nat → va_E) (Q : Qt) (S : MS) (t E : Nat) (z1 z2 z3 : Option Value) (ht : S 15 0 = nI t) (ht1 : t ≤ 160) (Post : Option Value → MS → Prop) (K : PX G (CPic G m M0 Q) 6 Y7_takeWord 39 [some (.ref (Q.1 9 0)), z1, z2, z3] [] (up2 S 62 3 (nI E)) 0 0 Post) : ∀ (kk e : Nat), e ≤ t → t + 1 ≤ e + kk → rn (ltr (S 14)) t e = E → PX G (CPic G m M0 Q) 6 Y7_takeWord 0 [some (.ref (Q.1 9 0)), z1, z2, z3] [] (up2 S 62 3 (nI e)) 0 0 Post := by
  intro kk
  induction kk with
  | zero => intro e h1 h2; omega
  | succ kk ih =>
    intro e h1 h2 hE
    refine px_aload_n dX7_takeWord_0 rfl rfl ?_
    refine cx_get (k := 9) (i := 0) (f := 5) dX7_takeWord_1 gX7_26 rfl Nat.one_pos rfl ?_
    refine px_aload_n dX7_takeWord_4 rfl rfl ?_
    refine cx_get (k := 9) (i := 0) (f := 1) dX7_takeWord_5 gX7_19 rfl Nat.one_pos rfl ?_
    refine px_icmp_ge (tgt := 39) dX7_takeWord_8 (by decide) (fun H8 => ?_) (fun H8 => ?_)
    · skip
      rw [u2s, show up2 S 62 3 (nI e) 15 0 = nI t from ht] at H8
      have eq : e = t := by have := ge_n (a := e) (b := t) (by omega) (by omega) H8; omega
      rw [rn_end (by omega)] at hE
      subst hE
      exact K
    · skip
      rw [u2s, show up2 S 62 3 (nI e) 15 0 = nI t from ht] at H8
      have lt : e < t := lt_n (a := e) (b := t) (by omega) (by omega) H8
      refine px_aload_n dX7_takeWord_11 rfl rfl ?_
      refine cx_get (k := 9) (i := 0) (f := 2) dX7_takeWord_12 gX7_11 rfl Nat.one_pos rfl ?_
      refine px_aload_n dX7_takeWord_15 rfl rfl ?_
      refine cx_get (k := 9) (i := 0) (f := 5) dX7_takeWord_16 gX7_26 rfl Nat.one_pos rfl ?_
      refine cx_bald (k := 10) (i := 0) (r := 14) (e) dX7_takeWord_19 rfl Nat.one_pos u2s (by omega) (by decide) ?_
      refine px_pure1 dX7_takeWord_20 lX7_107 (c_X7_isLetter G _) (by decide) (Nat.le_of_ble_eq_true rfl) ?_
      refine px_if_eq (tgt := 39) dX7_takeWord_23 (by decide) (fun H23 => ?_) (fun H23 => ?_)
      · skip
        rw [show up2 S 62 3 (nI e) 14 = S 14 from rfl, ltr_b] at H23
        rw [rn_no H23] at hE
        subst hE
        exact K
      · skip
        rw [show up2 S 62 3 (nI e) 14 = S 14 from rfl, ltr_b] at H23
        rw [Decidable.not_not] at H23
        rw [rn_go lt H23] at hE
        refine px_aload_n dX7_takeWord_26 rfl rfl ?_
        refine px_dup dX7_takeWord_27 rfl ?_
        refine cx_get (k := 9) (i := 0) (f := 5) dX7_takeWord_28 gX7_26 rfl Nat.one_pos rfl ?_
        refine px_iconst (v := 1) dX7_takeWord_31 (by decide) ?_
        refine px_iadd dX7_takeWord_32 ?_
        refine cx_put (k := 9) (i := 0) (f := 5) (r := 62) (j := 3) dX7_takeWord_33 gX7_26 rfl Nat.one_pos (Nat.le_of_ble_eq_true rfl) (by decide) rfl (cpe_9_5 0 _) rfl rfl ?_
        refine px_goto (tgt := 0) dX7_takeWord_36 (by decide) ?_
        exact px_S (by rw [u2s, nI_1, u2u]) (ih (e + 1) (by omega) (by omega) hE)
set_option maxHeartbeats 400000 in
set_option maxRecDepth 100000 in
theorem lp_st1 (G : Gt) (m : Nat → Prop) (M0 : Nat → va_E) (Q : Qt) (S : MS) (t E : Nat) (z1 : Option Value) (ht : S 15 0 = nI t) (ht1 : t ≤ 160) (Post : Option Value → MS → Prop) (K : PX G (CPic G m M0 Q) 7 Y7_step 47 [some (.ref (Q.1 9 0)), z1] [] (up2 S 62 2 (nI E)) 0 0 Post) : ∀ (kk e : Nat), e ≤ t → t + 1 ≤ e + kk → rn (blk (S 14)) t e = E → PX G (CPic G m M0 Q) 7 Y7_step 8 [some (.ref (Q.1 9 0)), z1] [] (up2 S 62 2 (nI e)) 0 0 Post := by
  intro kk
  induction kk with
  | zero => intro e h1 h2; omega
  | succ kk ih =>
    intro e h1 h2 hE
    refine px_aload_n dX7_step_8 rfl rfl ?_
    refine cx_get (k := 9) (i := 0) (f := 4) dX7_step_9 gX7_95 rfl Nat.one_pos rfl ?_
    refine px_aload_n dX7_step_12 rfl rfl ?_
    refine cx_get (k := 9) (i := 0) (f := 1) dX7_step_13 gX7_19 rfl Nat.one_pos rfl ?_
    refine px_icmp_ge (tgt := 47) dX7_step_16 (by decide) (fun H16 => ?_) (fun H16 => ?_)
    · skip
      rw [u2s, show up2 S 62 2 (nI e) 15 0 = nI t from ht] at H16
      have eq : e = t := by have := ge_n (a := e) (b := t) (by omega) (by omega) H16; omega
      rw [rn_end (by omega)] at hE
      subst hE
      exact K
    · skip
      rw [u2s, show up2 S 62 2 (nI e) 15 0 = nI t from ht] at H16
      have lt : e < t := lt_n (a := e) (b := t) (by omega) (by omega) H16
      refine px_aload_n dX7_step_19 rfl rfl ?_
      refine cx_get (k := 9) (i := 0) (f := 2) dX7_step_20 gX7_11 rfl Nat.one_pos rfl ?_
      refine px_aload_n dX7_step_23 rfl rfl ?_
      refine cx_get (k := 9) (i := 0) (f := 4) dX7_step_24 gX7_95 rfl Nat.one_pos rfl ?_
      refine cx_bald (k := 10) (i := 0) (r := 14) (e) dX7_step_27 rfl Nat.one_pos u2s (by omega) (by decide) ?_
      refine px_pure1 dX7_step_28 lX7_98 (c_X7_isBlank G _) (by decide) (Nat.le_of_ble_eq_true rfl) ?_
      refine px_if_eq (tgt := 47) dX7_step_31 (by decide) (fun H31 => ?_) (fun H31 => ?_)
      · skip
        rw [show up2 S 62 2 (nI e) 14 = S 14 from rfl, mBl_b] at H31
        rw [rn_no H31] at hE
        subst hE
        exact K
      · skip
        rw [show up2 S 62 2 (nI e) 14 = S 14 from rfl, mBl_b] at H31
        rw [Decidable.not_not] at H31
        rw [rn_go lt H31] at hE
        refine px_aload_n dX7_step_34 rfl rfl ?_
        refine px_dup dX7_step_35 rfl ?_
        refine cx_get (k := 9) (i := 0) (f := 4) dX7_step_36 gX7_95 rfl Nat.one_pos rfl ?_
        refine px_iconst (v := 1) dX7_step_39 (by decide) ?_
        refine px_iadd dX7_step_40 ?_
        refine cx_put (k := 9) (i := 0) (f := 4) (r := 62) (j := 2) dX7_step_41 gX7_95 rfl Nat.one_pos (Nat.le_of_ble_eq_true rfl) (by decide) rfl (cpe_9_4 0 _) rfl rfl ?_
        refine px_goto (tgt := 8) dX7_step_44 (by decide) ?_
        exact px_S (by rw [u2s, nI_1, u2u]) (ih (e + 1) (by omega) (by omega) hE)
def cnv (tp : Nat → Int32) (a : Nat) : Nat → Int32
  | 0 => 0
  | k + 1 => cnv tp a k * 10 + tp (a + k) - 48
theorem cnv_nv {tp : Nat → Int32} {a : Nat} : ∀ k, k ≤ 4 → cnv tp a k = nv tp a k
  | 0, _ => rfl
  | k + 1, h => by rw [nv_1 (by omega), cnv, cnv_nv k (by omega), Int32.mul_comm]
set_option maxHeartbeats 400000 in
set_option maxRecDepth 100000 in
theorem lp_tn2 (G : Gt) (m : Nat → Prop) (M0 : Nat → va_E) (Q : Qt) (S : MS) (a w e : Nat) (he : S 62 3 = nI e) (hw : a + w = e) (he1 : e ≤ 160) (Post : Option Value → MS → Prop) (K : PX G (CPic G m M0 Q) 2 Y7_takeNumber 84 [some (.ref (Q.1 9 0)), some (.int (nI (a + w)))] [] (up2 S 62 4 (cnv (S 14) a w)) 0 0 Post) : ∀ (kk i : Nat), i ≤ w → w + 1 ≤ i + kk → PX G (CPic G m M0 Q) 2 Y7_takeNumber 49 [some (.ref (Q.1 9 0)), some (.int (nI (a + i)))] [] (up2 S 62 4 (cnv (S 14) a i)) 0 0 Post := by
  intro kk
  induction kk with
  | zero => intro i h1 h2; omega
  | succ kk ih =>
    intro i h1 h2
    refine px_iload_n dX7_takeNumber_49 rfl rfl ?_
    refine px_aload_n dX7_takeNumber_50 rfl rfl ?_
    refine cx_get (k := 9) (i := 0) (f := 5) dX7_takeNumber_51 gX7_26 rfl Nat.one_pos rfl ?_
    refine px_icmp_ge (tgt := 84) dX7_takeNumber_54 (by decide) (fun H54 => ?_) (fun H54 => ?_)
    · skip
      rw [show up2 S 62 4 (cnv (S 14) a i) 62 3 = nI e from he] at H54
      have eN : i = w := by have := ge_n (a := a + i) (b := e) (by omega) (by omega) H54; omega
      rw [eN]
      exact K
    · skip
      rw [show up2 S 62 4 (cnv (S 14) a i) 62 3 = nI e from he] at H54
      have lN : i < w := by have := lt_n (a := a + i) (b := e) (by omega) (by omega) H54; omega
      refine px_aload_n dX7_takeNumber_57 rfl rfl ?_
      refine px_aload_n dX7_takeNumber_58 rfl rfl ?_
      refine cx_get (k := 9) (i := 0) (f := 6) dX7_takeNumber_59 gX7_88 rfl Nat.one_pos rfl ?_
      refine px_bipush (v := 10) dX7_takeNumber_62 (by decide) ?_
      refine px_imul dX7_takeNumber_64 ?_
      refine px_aload_n dX7_takeNumber_65 rfl rfl ?_
      refine cx_get (k := 9) (i := 0) (f := 2) dX7_takeNumber_66 gX7_11 rfl Nat.one_pos rfl ?_
      refine px_iload_n dX7_takeNumber_69 rfl rfl ?_
      refine cx_bald (k := 10) (i := 0) (r := 14) (a + i) dX7_takeNumber_70 rfl Nat.one_pos rfl (by omega) (by decide) ?_
      refine px_iadd dX7_takeNumber_71 ?_
      refine px_bipush (v := 48) dX7_takeNumber_72 (by decide) ?_
      refine px_isub dX7_takeNumber_74 ?_
      refine cx_put (k := 9) (i := 0) (f := 6) (r := 62) (j := 4) dX7_takeNumber_75 gX7_88 rfl Nat.one_pos (Nat.le_of_ble_eq_true rfl) (by decide) rfl (cpe_9_6 0 _) rfl rfl ?_
      refine px_iinc_1 (v := 1) dX7_takeNumber_78 (by decide) (by decide) rfl ?_
      refine px_goto (tgt := 49) dX7_takeNumber_81 (by decide) ?_
      refine px_lw (ls' := [some (.ref (Q.1 9 0)), some (.int (nI (a + (i + 1))))]) ?_ (px_S (S' := up2 S 62 4 (cnv (S 14) a (i + 1))) ?_ (ih (i + 1) (by omega) (by omega)))
      · (simp [LW, Nat.add_assoc, nI_1, *]; done)
      · rw [u2s, u2u]; rfl
theorem nI_subn {a e : Nat} (h : a ≤ e) : nI e - nI a = nI (e - a) := by
  obtain ⟨w, rfl⟩ : ∃ w, e = a + w := ⟨e - a, by omega⟩
  rw [← nI_add, Int32.add_comm, Int32.add_sub_cancel, show a + w - a = w by omega]
set_option maxHeartbeats 400000 in
set_option maxRecDepth 100000 in
theorem c_X7_takeNumber (G : Gt) (m : Nat → Prop) (M0 : Nat → va_E) (Q : Qt) (S : MS) (a t E : Nat) (ha : S 62 2 = nI a) (hb : S 62 3 = nI (a + 1)) (ht : S 15 0 = nI t) (hat : a < t) (ht1 : t ≤ 160) (hE : rn (dgt (S 14)) t (a + 1) = E) : PC G (CPic G m M0 Q) 2 Y7_takeNumber [.ref (Q.1 9 0)] S 0 0 (rv (fun S' => S' = up2 (up2 (up2 S 62 3 (nI E)) 62 4 (cnv (S 14) a (E - a))) 62 1 (if 4 < E - a then 1 else 2))) := by
  have hEb := rn_le (Pr := dgt (S 14)) (t := t) (t - (a + 1)) (a + 1) (by omega) (by omega)
  rw [hE] at hEb
  refine pc_of (ls := [some (.ref (Q.1 9 0)), none]) (by decide +kernel) rfl (Nat.le_of_ble_eq_true rfl) ?_
  refine px_S (u2i hb).symm (lp_tn1 G m M0 Q S t E none ht ht1 _ ?_ (t + 1) (a + 1) (by omega) (by omega) hE)
  refine px_aload_n dX7_takeNumber_39 rfl rfl ?_
  refine px_iconst (v := 0) dX7_takeNumber_40 (by decide) ?_
  refine cx_put (k := 9) (i := 0) (f := 6) (r := 62) (j := 4) dX7_takeNumber_41 gX7_88 rfl Nat.one_pos (Nat.le_of_ble_eq_true rfl) (by decide) rfl (cpe_9_6 0 _) rfl rfl ?_
  refine px_aload_n dX7_takeNumber_44 rfl rfl ?_
  refine cx_get (k := 9) (i := 0) (f := 4) dX7_takeNumber_45 gX7_95 rfl Nat.one_pos rfl ?_
  refine px_istore_n1 dX7_takeNumber_48 (by decide) rfl ?_
  rw [show up2 (up2 S 62 3 (nI E)) 62 4 0 62 2 = nI a from ha]
  refine px_lw (ls' := [some (.ref (Q.1 9 0)), some (.int (nI (a + 0)))]) (by simp [LW]) (lp_tn2 G m M0 Q (up2 S 62 3 (nI E)) a (E - a) E u2s (by omega) (by omega) _ ?_ (E - a + 1) 0 (by omega) (by omega))
  refine px_aload_n dX7_takeNumber_84 rfl rfl ?_
  refine px_aload_n dX7_takeNumber_85 rfl rfl ?_
  refine cx_get (k := 9) (i := 0) (f := 5) dX7_takeNumber_86 gX7_26 rfl Nat.one_pos rfl ?_
  refine px_aload_n dX7_takeNumber_89 rfl rfl ?_
  refine cx_get (k := 9) (i := 0) (f := 4) dX7_takeNumber_90 gX7_95 rfl Nat.one_pos rfl ?_
  refine px_isub dX7_takeNumber_93 ?_
  refine px_iconst (v := 4) dX7_takeNumber_94 (by decide) ?_
  refine px_icmp_gt (tgt := 102) dX7_takeNumber_95 (by decide) (fun H95 => ?_) (fun H95 => ?_)
  · skip
    rw [show up2 (up2 S 62 3 (nI E)) 62 4 (cnv (up2 S 62 3 (nI E) 14) a (E - a)) 62 3 = nI E by simp [up2, upd], show up2 (up2 S 62 3 (nI E)) 62 4 (cnv (up2 S 62 3 (nI E) 14) a (E - a)) 62 2 = nI a from ha, nI_subn (by omega)] at H95
    have g4 : 4 < E - a := lt_n (a := 4) (b := E - a) (by omega) (by omega) H95
    refine px_iconst (v := 1) dX7_takeNumber_102 (by decide) ?_
    refine cx_put (k := 9) (i := 0) (f := 3) (r := 62) (j := 1) dX7_takeNumber_103 gX7_45 rfl Nat.one_pos (Nat.le_of_ble_eq_true rfl) (by decide) rfl (cpe_9_3 0 _) rfl rfl ?_
    refine px_return dX7_takeNumber_106 rfl ?_
    first | (rw [if_pos g4]; rfl) | (rw [if_neg g4]; rfl)
  · skip
    rw [show up2 (up2 S 62 3 (nI E)) 62 4 (cnv (up2 S 62 3 (nI E) 14) a (E - a)) 62 3 = nI E by simp [up2, upd], show up2 (up2 S 62 3 (nI E)) 62 4 (cnv (up2 S 62 3 (nI E) 14) a (E - a)) 62 2 = nI a from ha, nI_subn (by omega)] at H95
    have g4 : ¬ 4 < E - a := by have := ge_n (a := 4) (b := E - a) (by omega) (by omega) H95; omega
    refine px_iconst (v := 2) dX7_takeNumber_98 (by decide) ?_
    refine px_goto (tgt := 103) dX7_takeNumber_99 (by decide) ?_
    refine cx_put (k := 9) (i := 0) (f := 3) (r := 62) (j := 1) dX7_takeNumber_103 gX7_45 rfl Nat.one_pos (Nat.le_of_ble_eq_true rfl) (by decide) rfl (cpe_9_3 0 _) rfl rfl ?_
    refine px_return dX7_takeNumber_106 rfl ?_
    first | (rw [if_pos g4]; rfl) | (rw [if_neg g4]; rfl)
