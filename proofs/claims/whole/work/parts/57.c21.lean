/-! THE CLASS: words -/
def spR (tp : Nat → Int32) (a u : Nat) : Nat → Nat → Int32
  | 0, _ => 1
  | n + 1, k => if kByt 0 k = tp (a + (k - u)) then spR tp a u n (k + 1) else 0
def spl (tp : Nat → Int32) (a b u v : Nat) : Int32 := if b - a = v - u then spR tp a u (v - u) u else 0
theorem spR_01 {tp : Nat → Int32} {a u : Nat} : ∀ n k, spR tp a u n k = 0 ∨ spR tp a u n k = 1
  | 0, _ => Or.inr rfl
  | n + 1, k => by
    rw [spR]
    split
    · exact spR_01 n (k + 1)
    · exact Or.inl rfl
set_option maxHeartbeats 400000 in
set_option maxRecDepth 100000 in
theorem lp_spl (G : Gt) (m : Nat → Prop) (M0 : Nat → va_E) (Q : Qt) (S : MS) (a u v : Nat) (hck : CKI G) (ha : S 62 2 = nI a) (ha1 : a ≤ 160) (hv : v ≤ 59) (haa : a + (v - u) ≤ 160) : ∀ (kk k : Nat), u ≤ k → k ≤ v → v + 1 ≤ k + kk → PX G (CPic G m M0 Q) 5 Y7_isSpelled 19 [some (.ref (Q.1 9 0)), some (.int (nI u)), some (.int (nI v)), some (.int (nI k))] [] S 0 0 (ri (fun x S1 => x = spR (S 14) a u (v - k) k ∧ S1 = S)) := by
  intro kk
  induction kk with
  | zero => intro k h0 h1 h2; omega
  | succ kk ih =>
    intro k h0 h1 h2
    refine px_iload_n dX7_isSpelled_19 rfl rfl ?_
    refine px_iload_n dX7_isSpelled_20 rfl rfl ?_
    refine px_icmp_ge (tgt := 54) dX7_isSpelled_21 (by decide) (fun H21 => ?_) (fun H21 => ?_)
    · skip
      have eq : k = v := by have := ge_n (a := k) (b := v) (by omega) (by omega) H21; omega
      have ev : v - k = 0 := by omega
      refine px_iconst (v := 1) dX7_isSpelled_54 (by decide) ?_
      refine px_iretZ dX7_isSpelled_55 rfl (by first | rfl | decide) ?_
      exact ⟨by rw [ev]; rfl, rfl⟩
    · skip
      have lt : k < v := lt_n (a := k) (b := v) (by omega) (by omega) H21
      obtain ⟨d, ed⟩ : ∃ d, v - k = d + 1 := ⟨v - k - 1, by omega⟩
      refine px_words dX7_isSpelled_24 rfl rfl ?_
      refine px_iload_n dX7_isSpelled_26 rfl rfl ?_
      refine px_kcall (i := 0) (av := [.int (nI k)]) (by decide) dX7_isSpelled_27 lX7_127 rfl rfl rfl (c_J0_charAt_5068e G 0 k (by decide) (show k < 59 by omega) hck) (by decide) (Nat.le_of_ble_eq_true rfl) ?_
      refine px_aload_n dX7_isSpelled_30 rfl rfl ?_
      refine cx_get (k := 9) (i := 0) (f := 2) dX7_isSpelled_31 gX7_11 rfl Nat.one_pos rfl ?_
      refine px_aload_n dX7_isSpelled_34 rfl rfl ?_
      refine cx_get (k := 9) (i := 0) (f := 4) dX7_isSpelled_35 gX7_95 rfl Nat.one_pos rfl ?_
      refine px_iload_n dX7_isSpelled_38 rfl rfl ?_
      refine px_iadd dX7_isSpelled_39 ?_
      refine px_iload_n dX7_isSpelled_40 rfl rfl ?_
      refine px_isub dX7_isSpelled_41 ?_
      refine cx_bald (k := 10) (i := 0) (r := 14) (a + (k - u)) dX7_isSpelled_42 rfl Nat.one_pos (by rw [ha, nI_add, nI_subn (by omega), show a + k - u = a + (k - u) by omega]) (by omega) (by decide) ?_
      refine px_icmp_eq (tgt := 48) dX7_isSpelled_43 (by decide) (fun H43 => ?_) (fun H43 => ?_)
      · skip
        refine px_iinc_3 (v := 1) dX7_isSpelled_48 (by decide) (by decide) rfl ?_
        refine px_goto (tgt := 19) dX7_isSpelled_51 (by decide) ?_
        rw [nI_1, ed, spR, if_pos H43, show d = v - (k + 1) by omega]
        exact ih (k + 1) (by omega) (by omega) (by omega)
      · skip
        have hr : spR (S 14) a u (v - k) k = 0 := by rw [ed, spR, if_neg H43]
        refine px_iconst (v := 0) dX7_isSpelled_46 (by decide) ?_
        refine px_iretZ dX7_isSpelled_47 rfl (by first | rfl | decide) ?_
        exact ⟨hr.symm, rfl⟩
set_option maxHeartbeats 400000 in
set_option maxRecDepth 100000 in
theorem c_X7_isSpelled (G : Gt) (m : Nat → Prop) (M0 : Nat → va_E) (Q : Qt) (S : MS) (a b u v : Nat) (hck : CKI G) (ha : S 62 2 = nI a) (hb : S 62 3 = nI b) (hab : a ≤ b) (hb1 : b ≤ 160) (huv : u ≤ v) (hv : v ≤ 59) : PC G (CPic G m M0 Q) 5 Y7_isSpelled [.ref (Q.1 9 0), .int (nI u), .int (nI v)] S 0 0 (ri (fun x S' => x = spl (S 14) a b u v ∧ S' = S)) := by
  refine pc_of (ls := [some (.ref (Q.1 9 0)), some (.int (nI u)), some (.int (nI v)), none]) (by decide +kernel) rfl (Nat.le_of_ble_eq_true rfl) ?_
  refine px_aload_n dX7_isSpelled_0 rfl rfl ?_
  refine cx_get (k := 9) (i := 0) (f := 5) dX7_isSpelled_1 gX7_26 rfl Nat.one_pos rfl ?_
  refine px_aload_n dX7_isSpelled_4 rfl rfl ?_
  refine cx_get (k := 9) (i := 0) (f := 4) dX7_isSpelled_5 gX7_95 rfl Nat.one_pos rfl ?_
  refine px_isub dX7_isSpelled_8 ?_
  refine px_iload_n dX7_isSpelled_9 rfl rfl ?_
  refine px_iload_n dX7_isSpelled_10 rfl rfl ?_
  refine px_isub dX7_isSpelled_11 ?_
  refine px_icmp_eq (tgt := 17) dX7_isSpelled_12 (by decide) (fun H12 => ?_) (fun H12 => ?_)
  · skip
    rw [ha, hb, nI_subn hab, nI_subn huv] at H12
    have eq : b - a = v - u := eq_n (by omega) (by omega) H12
    refine px_iload_n dX7_isSpelled_17 rfl rfl ?_
    refine px_istore_n3 dX7_isSpelled_18 (by decide) rfl ?_
    rw [spl, if_pos eq]
    refine px_lw (ls' := [some (.ref (Q.1 9 0)), some (.int (nI u)), some (.int (nI v)), some (.int (nI u))]) (by simp [LW]) (lp_spl G m M0 Q S a u v hck ha (by omega) hv (by omega) (v - u + 1) u (Nat.le_refl _) huv (by omega))
  · skip
    rw [ha, hb, nI_subn hab, nI_subn huv] at H12
    have ne : ¬ b - a = v - u := fun q => H12 (by rw [q])
    refine px_iconst (v := 0) dX7_isSpelled_15 (by decide) ?_
    refine px_iretZ dX7_isSpelled_16 rfl (by first | rfl | decide) ?_
    exact ⟨by rw [spl, if_neg ne], rfl⟩
/-- what the words make of a token -/
def twR (tp : Nat → Int32) (a b : Nat) : Nat → Nat → Nat → Nat → Int32 → Int32
  | 0, _, _, _, k => k
  | n + 1, i, w, s, k => if kByt 0 i = 32 then twR tp a b n (i + 1) (w + 1) (i + 1) (if spl tp a b s i = 0 then k else nI (256 + w)) else twR tp a b n (i + 1) w s k
set_option maxHeartbeats 400000 in
set_option maxRecDepth 100000 in
theorem lp_tw2 (G : Gt) (m : Nat → Prop) (M0 : Nat → va_E) (Q : Qt) (S : MS) (a b : Nat) (R : Int32) (hck : CKI G) (ha : S 62 2 = nI a) (hb : S 62 3 = nI b) (hab : a ≤ b) (hb1 : b ≤ 160) : ∀ (kk i w s : Nat) (k : Int32), i ≤ 59 → 60 ≤ i + kk → s ≤ i → w ≤ i → twR (S 14) a b (59 - i) i w s k = R → PX G (CPic G m M0 Q) 6 Y7_takeWord 52 [some (.ref (Q.1 9 0)), some (.int (nI (256 + w))), some (.int (nI s)), some (.int (nI i))] [] (up2 S 62 1 k) 0 0 (rv (fun S1 => S1 = up2 S 62 1 R)) := by
  intro kk
  induction kk with
  | zero => intro i w s k h1 h2; omega
  | succ kk ih =>
    intro i w s k h1 h2 hs hw hR
    refine px_iload_n dX7_takeWord_52 rfl rfl ?_
    refine px_words dX7_takeWord_53 rfl rfl ?_
    refine px_kcall (i := 0) (av := []) (by decide) dX7_takeWord_55 lX7_123 rfl rfl rfl (c_J0_length_8abf5 G 0 (by decide)) (by decide) (Nat.le_of_ble_eq_true rfl) ?_
    refine px_icmp_ge (tgt := 99) dX7_takeWord_58 (by decide) (fun H58 => ?_) (fun H58 => ?_)
    · skip
      rw [show kLen 0 = 59 from rfl] at H58
      have eq : i = 59 := by have := ge_n (a := i) (b := 59) (by omega) (by omega) H58; omega
      subst eq
      rw [twR] at hR
      subst hR
      refine px_return dX7_takeWord_99 rfl ?_
      rfl
    · skip
      rw [show kLen 0 = 59 from rfl] at H58
      have lt : i < 59 := lt_n (a := i) (b := 59) (by omega) (by omega) H58
      obtain ⟨d, ed⟩ : ∃ d, 59 - i = d + 1 := ⟨59 - i - 1, by omega⟩
      rw [ed, twR] at hR
      obtain rfl : d = 59 - (i + 1) := by omega
      refine px_words dX7_takeWord_61 rfl rfl ?_
      refine px_iload_n dX7_takeWord_63 rfl rfl ?_
      refine px_kcall (i := 0) (av := [.int (nI i)]) (by decide) dX7_takeWord_64 lX7_127 rfl rfl rfl (c_J0_charAt_5068e G 0 i (by decide) (show i < 59 by omega) hck) (by decide) (Nat.le_of_ble_eq_true rfl) ?_
      refine px_bipush (v := 32) dX7_takeWord_67 (by decide) ?_
      refine px_icmp_ne (tgt := 93) dX7_takeWord_69 (by decide) (fun H69 => ?_) (fun H69 => ?_)
      · skip
        rw [if_neg H69] at hR
        refine px_iinc_3 (v := 1) dX7_takeWord_93 (by decide) (by decide) rfl ?_
        refine px_goto (tgt := 52) dX7_takeWord_96 (by decide) ?_
        first
        | (rw [nI_1, nI_1]; exact px_S (by rw [u2u]) (ih (i + 1) (w + 1) (i + 1) _ (by omega) (by omega) (by omega) (by omega) hR))
        | (rw [nI_1, nI_1]; exact ih (i + 1) (w + 1) (i + 1) _ (by omega) (by omega) (by omega) (by omega) hR)
        | (rw [nI_1]; exact ih (i + 1) w s _ (by omega) (by omega) (by omega) (by omega) hR)
      · skip
        rw [if_pos H69] at hR
        refine px_aload_n dX7_takeWord_72 rfl rfl ?_
        refine px_iload_n dX7_takeWord_73 rfl rfl ?_
        refine px_iload_n dX7_takeWord_74 rfl rfl ?_
        refine cx_callI2 (k := 9) (i := 0) dX7_takeWord_75 lX7_131 rfl Nat.one_pos rfl (c_X7_isSpelled G m M0 Q (up2 S 62 1 k) a b s i hck ha hb hab hb1 hs (by omega)) (by decide) (Nat.le_of_ble_eq_true rfl) (fun x75 S75 Q75 => ?_)
        obtain ⟨rfl, e75⟩ := Q75
        obtain rfl := e75.symm
        refine px_if_eq (tgt := 86) dX7_takeWord_78 (by decide) (fun H78 => ?_) (fun H78 => ?_)
        · skip
          rw [show up2 S 62 1 k 14 = S 14 from rfl] at H78
          rw [if_pos H78] at hR
          refine px_iinc_1 (v := 1) dX7_takeWord_86 (by decide) (by decide) rfl ?_
          refine px_iload_n dX7_takeWord_89 rfl rfl ?_
          refine px_iconst (v := 1) dX7_takeWord_90 (by decide) ?_
          refine px_iadd dX7_takeWord_91 ?_
          refine px_istore_n2 dX7_takeWord_92 (by decide) rfl ?_
          refine px_iinc_3 (v := 1) dX7_takeWord_93 (by decide) (by decide) rfl ?_
          refine px_goto (tgt := 52) dX7_takeWord_96 (by decide) ?_
          first
          | (rw [nI_1, nI_1]; exact px_S (by rw [u2u]) (ih (i + 1) (w + 1) (i + 1) _ (by omega) (by omega) (by omega) (by omega) hR))
          | (rw [nI_1, nI_1]; exact ih (i + 1) (w + 1) (i + 1) _ (by omega) (by omega) (by omega) (by omega) hR)
          | (rw [nI_1]; exact ih (i + 1) w s _ (by omega) (by omega) (by omega) (by omega) hR)
        · skip
          rw [show up2 S 62 1 k 14 = S 14 from rfl] at H78
          rw [if_neg H78] at hR
          refine px_aload_n dX7_takeWord_81 rfl rfl ?_
          refine px_iload_n dX7_takeWord_82 rfl rfl ?_
          refine cx_put (k := 9) (i := 0) (f := 3) (r := 62) (j := 1) dX7_takeWord_83 gX7_45 rfl Nat.one_pos (Nat.le_of_ble_eq_true rfl) (by decide) rfl (cpe_9_3 0 _) rfl rfl ?_
          refine px_iinc_1 (v := 1) dX7_takeWord_86 (by decide) (by decide) rfl ?_
          refine px_iload_n dX7_takeWord_89 rfl rfl ?_
          refine px_iconst (v := 1) dX7_takeWord_90 (by decide) ?_
          refine px_iadd dX7_takeWord_91 ?_
          refine px_istore_n2 dX7_takeWord_92 (by decide) rfl ?_
          refine px_iinc_3 (v := 1) dX7_takeWord_93 (by decide) (by decide) rfl ?_
          refine px_goto (tgt := 52) dX7_takeWord_96 (by decide) ?_
          first
          | (rw [nI_1, nI_1]; exact px_S (by rw [u2u]) (ih (i + 1) (w + 1) (i + 1) _ (by omega) (by omega) (by omega) (by omega) hR))
          | (rw [nI_1, nI_1]; exact ih (i + 1) (w + 1) (i + 1) _ (by omega) (by omega) (by omega) (by omega) hR)
          | (rw [nI_1]; exact ih (i + 1) w s _ (by omega) (by omega) (by omega) (by omega) hR)
