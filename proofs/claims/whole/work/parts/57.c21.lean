/-! THE CLASS: words -/
def spR (tp : Nat → Int32) (a u : Nat) : Nat → Nat → Int32
  | 0, _ => 1
  | n + 1, k => if kByt 0 k = tp (a + (k - u)) then spR tp a u n (k + 1) else 0
def spl (tp : Nat → Int32) (a b u v : Nat) : Int32 := if b - a = v - u then spR tp a u (v - u) u else 0
theorem spR_01 {tp : Nat → Int32} {a u : Nat} : ∀ n k, spR tp a u n k = 0 ∨ spR tp a u n k = 1
  | 0, _ => Or.inr rfl
  | n + 1, k => by
    rw [spR]
    split
    · exact spR_01 n (k + 1)
    · exact Or.inl rfl
set_option maxHeartbeats 400000 in
set_option maxRecDepth 100000 in
theorem lp_spl (G : Gt) (m : Nat → Prop) (M0 : Nat → va_E) (Q : Qt) (S : MS) (a u v : Nat) (hck : CKI G) (ha : S 62 2 = nI a) (ha1 : a ≤ 160) (hv : v ≤ 59) (haa : a + (v - u) ≤ 160) : ∀ (kk k : Nat), u ≤ k → k ≤ v → v + 1 ≤ k + kk → PX G (CPic G m M0 Q) 5 Y7_isSpelled 19 [some (.ref (Q.1 9 0)), some (.int (nI u)), some (.int (nI v)), some (.int (nI k))] [] S 0 0 (ri (fun x S1 => x = spR (S 14) a u (v - k) k ∧ S1 = S)) := by
  intro kk
  induction kk with
  | zero => intro k h0 h1 h2; omega
  | succ kk ih =>
    intro k h0 h1 h2
    refine px_iload_n dX7_isSpelled_19 rfl rfl ?_
    refine px_iload_n dX7_isSpelled_20 rfl rfl ?_
    refine px_icmp_ge (tgt := 54) dX7_isSpelled_21 (by decide) (fun H21 => ?_) (fun H21 => ?_)
    · skip
      have eq : k = v := by have := ge_n (a := k) (b := v) (by omega) (by omega) H21; omega
      have ev : v - k = 0 := by omega
      refine px_iconst (v := 1) dX7_isSpelled_54 (by decide) ?_
      refine px_iretZ dX7_isSpelled_55 rfl (by first | rfl | decide) ?_
      exact ⟨by rw [ev]; rfl, rfl⟩
    · skip
      have lt : k < v := lt_n (a := k) (b := v) (by omega) (by omega) H21
      obtain ⟨d, ed⟩ : ∃ d, v - k = d + 1 := ⟨v - k - 1, by omega⟩
      refine px_words dX7_isSpelled_24 rfl rfl ?_
      refine px_iload_n dX7_isSpelled_26 rfl rfl ?_
      refine px_kcall (i := 0) (av := [.int (nI k)]) (by decide) dX7_isSpelled_27 lX7_127 rfl rfl rfl (c_J0_charAt_5068e G 0 k (by decide) (show k < 59 by omega) hck) (by decide) (Nat.le_of_ble_eq_true rfl) ?_
      refine px_aload_n dX7_isSpelled_30 rfl rfl ?_
      refine cx_get (k := 9) (i := 0) (f := 2) dX7_isSpelled_31 gX7_11 rfl Nat.one_pos rfl ?_
      refine px_aload_n dX7_isSpelled_34 rfl rfl ?_
      refine cx_get (k := 9) (i := 0) (f := 4) dX7_isSpelled_35 gX7_95 rfl Nat.one_pos rfl ?_
      refine px_iload_n dX7_isSpelled_38 rfl rfl ?_
      refine px_iadd dX7_isSpelled_39 ?_
      refine px_iload_n dX7_isSpelled_40 rfl rfl ?_
      refine px_isub dX7_isSpelled_41 ?_
      refine cx_bald (k := 10) (i := 0) (r := 14) (a + (k - u)) dX7_isSpelled_42 rfl Nat.one_pos (by rw [ha, nI_add, nI_subn (by omega), show a + k - u = a + (k - u) by omega]) (by omega) (by decide) ?_
      refine px_icmp_eq (tgt := 48) dX7_isSpelled_43 (by decide) (fun H43 => ?_) (fun H43 => ?_)
      · skip
        refine px_iinc_3 (v := 1) dX7_isSpelled_48 (by decide) (by decide) rfl ?_
        refine px_goto (tgt := 19) dX7_isSpelled_51 (by decide) ?_
        rw [nI_1, ed, spR, if_pos H43, show d = v - (k + 1) by omega]
        exact ih (k + 1) (by omega) (by omega) (by omega)
      · skip
        have hr : spR (S 14) a u (v - k) k = 0 := by rw [ed, spR, if_neg H43]
        refine px_iconst (v := 0) dX7_isSpelled_46 (by decide) ?_
        refine px_iretZ dX7_isSpelled_47 rfl (by first | rfl | decide) ?_
        exact ⟨hr.symm, rfl⟩
set_option maxHeartbeats 400000 in
set_option maxRecDepth 100000 in
theorem c_X7_isSpelled (G : Gt) (m : Nat → Prop) (M0 : Nat → va_E) (Q : Qt) (S : MS) (a b u v : Nat) (hck : CKI G) (ha : S 62 2 = nI a) (hb : S 62 3 = nI b) (hab : a ≤ b) (hb1 : b ≤ 160) (huv : u ≤ v) (hv : v ≤ 59) : PC G (CPic G m M0 Q) 5 Y7_isSpelled [.ref (Q.1 9 0), .int (nI u), .int (nI v)] S 0 0 (ri (fun x S' => x = spl (S 14) a b u v ∧ S' = S)) := by
  refine pc_of (ls := [some (.ref (Q.1 9 0)), some (.int (nI u)), some (.int (nI v)), none]) (by decide +kernel) rfl (Nat.le_of_ble_eq_true rfl) ?_
  refine px_aload_n dX7_isSpelled_0 rfl rfl ?_
  refine cx_get (k := 9) (i := 0) (f := 5) dX7_isSpelled_1 gX7_26 rfl Nat.one_pos rfl ?_
  refine px_aload_n dX7_isSpelled_4 rfl rfl ?_
  refine cx_get (k := 9) (i := 0) (f := 4) dX7_isSpelled_5 gX7_95 rfl Nat.one_pos rfl ?_
  refine px_isub dX7_isSpelled_8 ?_
  refine px_iload_n dX7_isSpelled_9 rfl rfl ?_
  refine px_iload_n dX7_isSpelled_10 rfl rfl ?_
  refine px_isub dX7_isSpelled_11 ?_
  refine px_icmp_eq (tgt := 17) dX7_isSpelled_12 (by decide) (fun H12 => ?_) (fun H12 => ?_)
  · skip
    rw [ha, hb, nI_subn hab, nI_subn huv] at H12
    have eq : b - a = v - u := eq_n (by omega) (by omega) H12
    refine px_iload_n dX7_isSpelled_17 rfl rfl ?_
    refine px_istore_n3 dX7_isSpelled_18 (by decide) rfl ?_
    rw [spl, if_pos eq]
    refine px_lw (ls' := [some (.ref (Q.1 9 0)), some (.int (nI u)), some (.int (nI v)), some (.int (nI u))]) (by simp [LW]) (lp_spl G m M0 Q S a u v hck ha (by omega) hv (by omega) (v - u + 1) u (Nat.le_refl _) huv (by omega))
  · skip
    rw [ha, hb, nI_subn hab, nI_subn huv] at H12
    have ne : ¬ b - a = v - u := fun q => H12 (by rw [q])
    refine px_iconst (v := 0) dX7_isSpelled_15 (by decide) ?_
    refine px_iretZ dX7_isSpelled_16 rfl (by first | rfl | decide) ?_
    exact ⟨by rw [spl, if_neg ne], rfl⟩
/-- what the words make of a token -/
def twR (tp : Nat → Int32) (a b : Nat) : Nat → Nat → Nat → Nat → Int32 → Int32
  | 0, _, _, _, k => k
  | n + 1, i, w, s, k => if kByt 0 i = 32 then twR tp a b n (i + 1) (w + 1) (i + 1) (if spl tp a b s i = 0 then k else nI (256 + w)) else twR tp a b n (i + 1) w s k
set_option maxHeartbeats 400000 in
set_option maxRecDepth 100000 in
theorem lp_tw2 (G : Gt) (m : Nat → Prop) (M0 : Nat → va_E) (Q : Qt) (S : MS) (a b : Nat) (R : Int32) (hck : CKI G) (ha : S 62 2 = nI a) (hb : S 62 3 = nI b) (hab : a ≤ b) (hb1 : b ≤ 160) : ∀ (kk i w s : Nat) (k : Int32), i ≤ 59 → 60 ≤ i + kk → s ≤ i → w ≤ i → twR (S 14) a b (59 - i) i w s k = R → PX G (CPic G m M0 Q) 6 Y7_takeWord 52 [some (.ref (Q.1 9 0)), some (.int (nI (256 + w))), some (.int (nI s)), some (.int (nI i))] [] (up2 S 62 1 k) 0 0 (rv (fun S1 => S1 = up2 S 62 1 R)) := by
  intro kk
  induction kk with
  | zero => intro i w s k h1 h2; omega
  | succ kk ih =>
    intro i w s k h1 h2 hs hw hR
    refine px_iload_n dX7_takeWord_52 rfl rfl ?_
    refine px_words dX7_takeWord_53 rfl rfl ?_
    refine px_kcall (i := 0) (av := []) (by decide) dX7_takeWord_55 lX7_123 rfl rfl rfl (c_J0_length_8abf5 G 0 (by decide)) (by decide) (Nat.le_of_ble_eq_true rfl) ?_
    refine px_icmp_ge (tgt := 99) dX7_takeWord_58 (by decide) (fun H58 => ?_) (fun H58 => ?_)
    · skip
      rw [show kLen 0 = 59 from rfl] at H58
      have eq : i = 59 := by have := ge_n (a := i) (b := 59) (by omega) (by omega) H58; omega
      subst eq
      rw [twR] at hR
      subst hR
      refine px_return dX7_takeWord_99 rfl ?_
      rfl
    · skip
      rw [show kLen 0 = 59 from rfl] at H58
      have lt : i < 59 := lt_n (a := i) (b := 59) (by omega) (by omega) H58
      obtain ⟨d, ed⟩ : ∃ d, 59 - i = d + 1 := ⟨59 - i - 1, by omega⟩
      rw [ed, twR] at hR
      obtain rfl : d = 59 - (i + 1) := by omega
      refine px_words dX7_takeWord_61 rfl rfl ?_
      refine px_iload_n dX7_takeWord_63 rfl rfl ?_
      refine px_kcall (i := 0) (av := [.int (nI i)]) (by decide) dX7_takeWord_64 lX7_127 rfl rfl rfl (c_J0_charAt_5068e G 0 i (by decide) (show i < 59 by omega) hck) (by decide) (Nat.le_of_ble_eq_true rfl) ?_
      refine px_bipush (v := 32) dX7_takeWord_67 (by decide) ?_
      refine px_icmp_ne (tgt := 93) dX7_takeWord_69 (by decide) (fun H69 => ?_) (fun H69 => ?_)
      · skip
        rw [if_neg H69] at hR
        refine px_iinc_3 (v := 1) dX7_takeWord_93 (by decide) (by decide) rfl ?_
        refine px_goto (tgt := 52) dX7_takeWord_96 (by decide) ?_
        first
        | (rw [nI_1, nI_1]; exact px_S (by rw [u2u]) (ih (i + 1) (w + 1) (i + 1) _ (by omega) (by omega) (by omega) (by omega) hR))
        | (rw [nI_1, nI_1]; exact ih (i + 1) (w + 1) (i + 1) _ (by omega) (by omega) (by omega) (by omega) hR)
        | (rw [nI_1]; exact ih (i + 1) w s _ (by omega) (by omega) (by omega) (by omega) hR)
      · skip
        rw [if_pos H69] at hR
        refine px_aload_n dX7_takeWord_72 rfl rfl ?_
        refine px_iload_n dX7_takeWord_73 rfl rfl ?_
        refine px_iload_n dX7_takeWord_74 rfl rfl ?_
        refine cx_callI2 (k := 9) (i := 0) dX7_takeWord_75 lX7_131 rfl Nat.one_pos rfl (c_X7_isSpelled G m M0 Q (up2 S 62 1 k) a b s i hck ha hb hab hb1 hs (by omega)) (by decide) (Nat.le_of_ble_eq_true rfl) (fun x75 S75 Q75 => ?_)
        obtain ⟨rfl, e75⟩ := Q75
        obtain rfl := e75.symm
        refine px_if_eq (tgt := 86) dX7_takeWord_78 (by decide) (fun H78 => ?_) (fun H78 => ?_)
        · skip
          rw [show up2 S 62 1 k 14 = S 14 from rfl] at H78
          rw [if_pos H78] at hR
          refine px_iinc_1 (v := 1) dX7_takeWord_86 (by decide) (by decide) rfl ?_
          refine px_iload_n dX7_takeWord_89 rfl rfl ?_
          refine px_iconst (v := 1) dX7_takeWord_90 (by decide) ?_
          refine px_iadd dX7_takeWord_91 ?_
          refine px_istore_n2 dX7_takeWord_92 (by decide) rfl ?_
          refine px_iinc_3 (v := 1) dX7_takeWord_93 (by decide) (by decide) rfl ?_
          refine px_goto (tgt := 52) dX7_takeWord_96 (by decide) ?_
          first
          | (rw [nI_1, nI_1]; exact px_S (by rw [u2u]) (ih (i + 1) (w + 1) (i + 1) _ (by omega) (by omega) (by omega) (by omega) hR))
          | (rw [nI_1, nI_1]; exact ih (i + 1) (w + 1) (i + 1) _ (by omega) (by omega) (by omega) (by omega) hR)
          | (rw [nI_1]; exact ih (i + 1) w s _ (by omega) (by omega) (by omega) (by omega) hR)
        · skip
          rw [show up2 S 62 1 k 14 = S 14 from rfl] at H78
          rw [if_neg H78] at hR
          refine px_aload_n dX7_takeWord_81 rfl rfl ?_
          refine px_iload_n dX7_takeWord_82 rfl rfl ?_
          refine cx_put (k := 9) (i := 0) (f := 3) (r := 62) (j := 1) dX7_takeWord_83 gX7_45 rfl Nat.one_pos (Nat.le_of_ble_eq_true rfl) (by decide) rfl (cpe_9_3 0 _) rfl rfl ?_
          refine px_iinc_1 (v := 1) dX7_takeWord_86 (by decide) (by decide) rfl ?_
          refine px_iload_n dX7_takeWord_89 rfl rfl ?_
          refine px_iconst (v := 1) dX7_takeWord_90 (by decide) ?_
          refine px_iadd dX7_takeWord_91 ?_
          refine px_istore_n2 dX7_takeWord_92 (by decide) rfl ?_
          refine px_iinc_3 (v := 1) dX7_takeWord_93 (by decide) (by decide) rfl ?_
          refine px_goto (tgt := 52) dX7_takeWord_96 (by decide) ?_
          first
          | (rw [nI_1, nI_1]; exact px_S (by rw [u2u]) (ih (i + 1) (w + 1) (i + 1) _ (by omega) (by omega) (by omega) (by omega) hR))
          | (rw [nI_1, nI_1]; exact ih (i + 1) (w + 1) (i + 1) _ (by omega) (by omega) (by omega) (by omega) hR)
          | (rw [nI_1]; exact ih (i + 1) w s _ (by omega) (by omega) (by omega) (by omega) hR)
def tkW (tp : Nat → Int32) (a b : Nat) : Int32 := twR tp a b 59 0 0 0 1
set_option maxHeartbeats 400000 in
set_option maxRecDepth 100000 in
theorem c_X7_takeWord (G : Gt) (m : Nat → Prop) (M0 : Nat → va_E) (Q : Qt) (S : MS) (a t E : Nat) (hck : CKI G) (ha : S 62 2 = nI a) (hb : S 62 3 = nI (a + 1)) (ht : S 15 0 = nI t) (hat : a < t) (ht1 : t ≤ 160) (hE : rn (ltr (S 14)) t (a + 1) = E) : PC G (CPic G m M0 Q) 6 Y7_takeWord [.ref (Q.1 9 0)] S 0 0 (rv (fun S' => S' = up2 (up2 S 62 3 (nI E)) 62 1 (tkW (S 14) a E))) := by
  have hEb := rn_le (Pr := ltr (S 14)) (t := t) (t - (a + 1)) (a + 1) (by omega) (by omega)
  rw [hE] at hEb
  refine pc_of (ls := [some (.ref (Q.1 9 0)), none, none, none]) (by decide +kernel) rfl (Nat.le_of_ble_eq_true rfl) ?_
  refine px_S (u2i hb).symm (lp_tw1 G m M0 Q S t E none none none ht ht1 _ ?_ (t + 1) (a + 1) (by omega) (by omega) hE)
  refine px_aload_n dX7_takeWord_39 rfl rfl ?_
  refine px_iconst (v := 1) dX7_takeWord_40 (by decide) ?_
  refine cx_put (k := 9) (i := 0) (f := 3) (r := 62) (j := 1) dX7_takeWord_41 gX7_45 rfl Nat.one_pos (Nat.le_of_ble_eq_true rfl) (by decide) rfl (cpe_9_3 0 _) rfl rfl ?_
  refine px_sipush (v := 256) dX7_takeWord_44 (by decide) ?_
  refine px_istore_n1 dX7_takeWord_47 (by decide) rfl ?_
  refine px_iconst (v := 0) dX7_takeWord_48 (by decide) ?_
  refine px_istore_n2 dX7_takeWord_49 (by decide) rfl ?_
  refine px_iconst (v := 0) dX7_takeWord_50 (by decide) ?_
  refine px_istore_n3 dX7_takeWord_51 (by decide) rfl ?_
  refine px_lw (ls' := [some (.ref (Q.1 9 0)), some (.int (nI (256 + 0))), some (.int (nI 0)), some (.int (nI 0))]) (by simp [LW] <;> exact ⟨rfl, rfl⟩) (lp_tw2 G m M0 Q (up2 S 62 3 (nI E)) a E _ hck ha u2s (by omega) (by omega) 60 0 0 0 1 (by omega) (by omega) (by omega) (by omega) rfl)
theorem tkW_eq {tp : Nat → Int32} {a b : Nat} : tkW tp a b = (if spl tp a b 55 58 = 0 then (if spl tp a b 51 54 = 0 then (if spl tp a b 48 50 = 0 then (if spl tp a b 43 47 = 0 then (if spl tp a b 38 42 = 0 then (if spl tp a b 33 37 = 0 then (if spl tp a b 29 32 = 0 then (if spl tp a b 23 28 = 0 then (if spl tp a b 18 22 = 0 then (if spl tp a b 13 17 = 0 then (if spl tp a b 7 12 = 0 then (if spl tp a b 0 6 = 0 then 1 else nI 256) else nI 257) else nI 258) else nI 259) else nI 260) else nI 261) else nI 262) else nI 263) else nI 264) else nI 265) else nI 266) else nI 267) := rfl
theorem spw_ounces {tp : Nat → Int32} {a b : Nat} : spl tp a b 0 6 = bI (isWb tp a b 111 117 110 99 101 115 6) := by
  unfold spl isWb bI
  by_cases h : b - a = 6
  case neg => rw [if_neg (show ¬ b - a = 6 - 0 from h)]; simp [h]
  rw [if_pos (show b - a = 6 - 0 from h), show 6 - 0 = 6 from rfl]
  simp only [spR, Nat.reduceAdd, Nat.reduceSub, Nat.add_zero, show kByt 0 0 = 111 by decide, show kByt 0 1 = 117 by decide, show kByt 0 2 = 110 by decide, show kByt 0 3 = 99 by decide, show kByt 0 4 = 101 by decide, show kByt 0 5 = 115 by decide]
  by_cases h0 : tp a = 111
  case neg => simp [h, h0, Ne.symm h0]
  by_cases h1 : tp (a + 1) = 117
  case neg => simp [h, h1, Ne.symm h1, h0]
  by_cases h2 : tp (a + 2) = 110
  case neg => simp [h, h2, Ne.symm h2, h0, h1]
  by_cases h3 : tp (a + 3) = 99
  case neg => simp [h, h3, Ne.symm h3, h0, h1, h2]
  by_cases h4 : tp (a + 4) = 101
  case neg => simp [h, h4, Ne.symm h4, h0, h1, h2, h3]
  by_cases h5 : tp (a + 5) = 115
  case neg => simp [h, h5, Ne.symm h5, h0, h1, h2, h3, h4]
  simp [h, h0, h1, h2, h3, h4, h5]
theorem spw_apart {tp : Nat → Int32} {a b : Nat} : spl tp a b 7 12 = bI (isWb tp a b 97 112 97 114 116 0 5) := by
  unfold spl isWb bI
  by_cases h : b - a = 5
  case neg => rw [if_neg (show ¬ b - a = 12 - 7 from h)]; simp [h]
  rw [if_pos (show b - a = 12 - 7 from h), show 12 - 7 = 5 from rfl]
  simp only [spR, Nat.reduceAdd, Nat.reduceSub, Nat.add_zero, show kByt 0 7 = 97 by decide, show kByt 0 8 = 112 by decide, show kByt 0 9 = 97 by decide, show kByt 0 10 = 114 by decide, show kByt 0 11 = 116 by decide]
  by_cases h0 : tp a = 97
  case neg => simp [h, h0, Ne.symm h0]
  by_cases h1 : tp (a + 1) = 112
  case neg => simp [h, h1, Ne.symm h1, h0]
  by_cases h2 : tp (a + 2) = 97
  case neg => simp [h, h2, Ne.symm h2, h0, h1]
  by_cases h3 : tp (a + 3) = 114
  case neg => simp [h, h3, Ne.symm h3, h0, h1, h2]
  by_cases h4 : tp (a + 4) = 116
  case neg => simp [h, h4, Ne.symm h4, h0, h1, h2, h3]
  simp [h, h0, h1, h2, h3, h4]
theorem spw_size {tp : Nat → Int32} {a b : Nat} : spl tp a b 13 17 = bI (isWb tp a b 115 105 122 101 0 0 4) := by
  unfold spl isWb bI
  by_cases h : b - a = 4
  case neg => rw [if_neg (show ¬ b - a = 17 - 13 from h)]; simp [h]
  rw [if_pos (show b - a = 17 - 13 from h), show 17 - 13 = 4 from rfl]
  simp only [spR, Nat.reduceAdd, Nat.reduceSub, Nat.add_zero, show kByt 0 13 = 115 by decide, show kByt 0 14 = 105 by decide, show kByt 0 15 = 122 by decide, show kByt 0 16 = 101 by decide]
  by_cases h0 : tp a = 115
  case neg => simp [h, h0, Ne.symm h0]
  by_cases h1 : tp (a + 1) = 105
  case neg => simp [h, h1, Ne.symm h1, h0]
  by_cases h2 : tp (a + 2) = 122
  case neg => simp [h, h2, Ne.symm h2, h0, h1]
  by_cases h3 : tp (a + 3) = 101
  case neg => simp [h, h3, Ne.symm h3, h0, h1, h2]
  simp [h, h0, h1, h2, h3]
theorem spw_worn {tp : Nat → Int32} {a b : Nat} : spl tp a b 18 22 = bI (isWb tp a b 119 111 114 110 0 0 4) := by
  unfold spl isWb bI
  by_cases h : b - a = 4
  case neg => rw [if_neg (show ¬ b - a = 22 - 18 from h)]; simp [h]
  rw [if_pos (show b - a = 22 - 18 from h), show 22 - 18 = 4 from rfl]
  simp only [spR, Nat.reduceAdd, Nat.reduceSub, Nat.add_zero, show kByt 0 18 = 119 by decide, show kByt 0 19 = 111 by decide, show kByt 0 20 = 114 by decide, show kByt 0 21 = 110 by decide]
  by_cases h0 : tp a = 119
  case neg => simp [h, h0, Ne.symm h0]
  by_cases h1 : tp (a + 1) = 111
  case neg => simp [h, h1, Ne.symm h1, h0]
  by_cases h2 : tp (a + 2) = 114
  case neg => simp [h, h2, Ne.symm h2, h0, h1]
  by_cases h3 : tp (a + 3) = 110
  case neg => simp [h, h3, Ne.symm h3, h0, h1, h2]
  simp [h, h0, h1, h2, h3]
theorem spw_faded {tp : Nat → Int32} {a b : Nat} : spl tp a b 23 28 = bI (isWb tp a b 102 97 100 101 100 0 5) := by
  unfold spl isWb bI
  by_cases h : b - a = 5
  case neg => rw [if_neg (show ¬ b - a = 28 - 23 from h)]; simp [h]
  rw [if_pos (show b - a = 28 - 23 from h), show 28 - 23 = 5 from rfl]
  simp only [spR, Nat.reduceAdd, Nat.reduceSub, Nat.add_zero, show kByt 0 23 = 102 by decide, show kByt 0 24 = 97 by decide, show kByt 0 25 = 100 by decide, show kByt 0 26 = 101 by decide, show kByt 0 27 = 100 by decide]
  by_cases h0 : tp a = 102
  case neg => simp [h, h0, Ne.symm h0]
  by_cases h1 : tp (a + 1) = 97
  case neg => simp [h, h1, Ne.symm h1, h0]
  by_cases h2 : tp (a + 2) = 100
  case neg => simp [h, h2, Ne.symm h2, h0, h1]
  by_cases h3 : tp (a + 3) = 101
  case neg => simp [h, h3, Ne.symm h3, h0, h1, h2]
  by_cases h4 : tp (a + 4) = 100
  case neg => simp [h, h4, Ne.symm h4, h0, h1, h2, h3]
  simp [h, h0, h1, h2, h3, h4]
theorem spw_vat {tp : Nat → Int32} {a b : Nat} : spl tp a b 29 32 = bI (isWb tp a b 118 97 116 0 0 0 3) := by
  unfold spl isWb bI
  by_cases h : b - a = 3
  case neg => rw [if_neg (show ¬ b - a = 32 - 29 from h)]; simp [h]
  rw [if_pos (show b - a = 32 - 29 from h), show 32 - 29 = 3 from rfl]
  simp only [spR, Nat.reduceAdd, Nat.reduceSub, Nat.add_zero, show kByt 0 29 = 118 by decide, show kByt 0 30 = 97 by decide, show kByt 0 31 = 116 by decide]
  by_cases h0 : tp a = 118
  case neg => simp [h, h0, Ne.symm h0]
  by_cases h1 : tp (a + 1) = 97
  case neg => simp [h, h1, Ne.symm h1, h0]
  by_cases h2 : tp (a + 2) = 116
  case neg => simp [h, h2, Ne.symm h2, h0, h1]
  simp [h, h0, h1, h2]
theorem spw_bear {tp : Nat → Int32} {a b : Nat} : spl tp a b 33 37 = bI (isWb tp a b 98 101 97 114 0 0 4) := by
  unfold spl isWb bI
  by_cases h : b - a = 4
  case neg => rw [if_neg (show ¬ b - a = 37 - 33 from h)]; simp [h]
  rw [if_pos (show b - a = 37 - 33 from h), show 37 - 33 = 4 from rfl]
  simp only [spR, Nat.reduceAdd, Nat.reduceSub, Nat.add_zero, show kByt 0 33 = 98 by decide, show kByt 0 34 = 101 by decide, show kByt 0 35 = 97 by decide, show kByt 0 36 = 114 by decide]
  by_cases h0 : tp a = 98
  case neg => simp [h, h0, Ne.symm h0]
  by_cases h1 : tp (a + 1) = 101
  case neg => simp [h, h1, Ne.symm h1, h0]
  by_cases h2 : tp (a + 2) = 97
  case neg => simp [h, h2, Ne.symm h2, h0, h1]
  by_cases h3 : tp (a + 3) = 114
  case neg => simp [h, h3, Ne.symm h3, h0, h1, h2]
  simp [h, h0, h1, h2, h3]
theorem spw_seen {tp : Nat → Int32} {a b : Nat} : spl tp a b 38 42 = bI (isWb tp a b 115 101 101 110 0 0 4) := by
  unfold spl isWb bI
  by_cases h : b - a = 4
  case neg => rw [if_neg (show ¬ b - a = 42 - 38 from h)]; simp [h]
  rw [if_pos (show b - a = 42 - 38 from h), show 42 - 38 = 4 from rfl]
  simp only [spR, Nat.reduceAdd, Nat.reduceSub, Nat.add_zero, show kByt 0 38 = 115 by decide, show kByt 0 39 = 101 by decide, show kByt 0 40 = 101 by decide, show kByt 0 41 = 110 by decide]
  by_cases h0 : tp a = 115
  case neg => simp [h, h0, Ne.symm h0]
  by_cases h1 : tp (a + 1) = 101
  case neg => simp [h, h1, Ne.symm h1, h0]
  by_cases h2 : tp (a + 2) = 101
  case neg => simp [h, h2, Ne.symm h2, h0, h1]
  by_cases h3 : tp (a + 3) = 110
  case neg => simp [h, h3, Ne.symm h3, h0, h1, h2]
  simp [h, h0, h1, h2, h3]
theorem spw_keep {tp : Nat → Int32} {a b : Nat} : spl tp a b 43 47 = bI (isWb tp a b 107 101 101 112 0 0 4) := by
  unfold spl isWb bI
  by_cases h : b - a = 4
  case neg => rw [if_neg (show ¬ b - a = 47 - 43 from h)]; simp [h]
  rw [if_pos (show b - a = 47 - 43 from h), show 47 - 43 = 4 from rfl]
  simp only [spR, Nat.reduceAdd, Nat.reduceSub, Nat.add_zero, show kByt 0 43 = 107 by decide, show kByt 0 44 = 101 by decide, show kByt 0 45 = 101 by decide, show kByt 0 46 = 112 by decide]
  by_cases h0 : tp a = 107
  case neg => simp [h, h0, Ne.symm h0]
  by_cases h1 : tp (a + 1) = 101
  case neg => simp [h, h1, Ne.symm h1, h0]
  by_cases h2 : tp (a + 2) = 101
  case neg => simp [h, h2, Ne.symm h2, h0, h1]
  by_cases h3 : tp (a + 3) = 112
  case neg => simp [h, h3, Ne.symm h3, h0, h1, h2]
  simp [h, h0, h1, h2, h3]
theorem spw_or {tp : Nat → Int32} {a b : Nat} : spl tp a b 48 50 = bI (isWb tp a b 111 114 0 0 0 0 2) := by
  unfold spl isWb bI
  by_cases h : b - a = 2
  case neg => rw [if_neg (show ¬ b - a = 50 - 48 from h)]; simp [h]
  rw [if_pos (show b - a = 50 - 48 from h), show 50 - 48 = 2 from rfl]
  simp only [spR, Nat.reduceAdd, Nat.reduceSub, Nat.add_zero, show kByt 0 48 = 111 by decide, show kByt 0 49 = 114 by decide]
  by_cases h0 : tp a = 111
  case neg => simp [h, h0, Ne.symm h0]
  by_cases h1 : tp (a + 1) = 114
  case neg => simp [h, h1, Ne.symm h1, h0]
  simp [h, h0, h1]
theorem spw_and {tp : Nat → Int32} {a b : Nat} : spl tp a b 51 54 = bI (isWb tp a b 97 110 100 0 0 0 3) := by
  unfold spl isWb bI
  by_cases h : b - a = 3
  case neg => rw [if_neg (show ¬ b - a = 54 - 51 from h)]; simp [h]
  rw [if_pos (show b - a = 54 - 51 from h), show 54 - 51 = 3 from rfl]
  simp only [spR, Nat.reduceAdd, Nat.reduceSub, Nat.add_zero, show kByt 0 51 = 97 by decide, show kByt 0 52 = 110 by decide, show kByt 0 53 = 100 by decide]
  by_cases h0 : tp a = 97
  case neg => simp [h, h0, Ne.symm h0]
  by_cases h1 : tp (a + 1) = 110
  case neg => simp [h, h1, Ne.symm h1, h0]
  by_cases h2 : tp (a + 2) = 100
  case neg => simp [h, h2, Ne.symm h2, h0, h1]
  simp [h, h0, h1, h2]
theorem spw_not {tp : Nat → Int32} {a b : Nat} : spl tp a b 55 58 = bI (isWb tp a b 110 111 116 0 0 0 3) := by
  unfold spl isWb bI
  by_cases h : b - a = 3
  case neg => rw [if_neg (show ¬ b - a = 58 - 55 from h)]; simp [h]
  rw [if_pos (show b - a = 58 - 55 from h), show 58 - 55 = 3 from rfl]
  simp only [spR, Nat.reduceAdd, Nat.reduceSub, Nat.add_zero, show kByt 0 55 = 110 by decide, show kByt 0 56 = 111 by decide, show kByt 0 57 = 116 by decide]
  by_cases h0 : tp a = 110
  case neg => simp [h, h0, Ne.symm h0]
  by_cases h1 : tp (a + 1) = 111
  case neg => simp [h, h1, Ne.symm h1, h0]
  by_cases h2 : tp (a + 2) = 116
  case neg => simp [h, h2, Ne.symm h2, h0, h1]
  simp [h, h0, h1, h2]
theorem tkW_w {tp : Nat → Int32} {a b : Nat} : tkW tp a b = if wN tp a b < 0 then 1 else if wN tp a b < 6 then 256 + wN tp a b else 252 + wN tp a b := by
  rw [tkW_eq, spw_ounces, spw_apart, spw_size, spw_worn, spw_faded, spw_vat, spw_bear, spw_seen, spw_keep, spw_or, spw_and, spw_not]
  unfold wN
  by_cases h0 : isWb tp a b 111 117 110 99 101 115 6 = true
  · have hh := h0
    simp [isWb] at hh
    have o1 : bI (isWb tp a b 97 112 97 114 116 0 5) = 0 := by simp [isWb, bI, hh]
    have o2 : bI (isWb tp a b 115 105 122 101 0 0 4) = 0 := by simp [isWb, bI, hh]
    have o3 : bI (isWb tp a b 119 111 114 110 0 0 4) = 0 := by simp [isWb, bI, hh]
    have o4 : bI (isWb tp a b 102 97 100 101 100 0 5) = 0 := by simp [isWb, bI, hh]
    have o5 : bI (isWb tp a b 118 97 116 0 0 0 3) = 0 := by simp [isWb, bI, hh]
    have o6 : bI (isWb tp a b 98 101 97 114 0 0 4) = 0 := by simp [isWb, bI, hh]
    have o7 : bI (isWb tp a b 115 101 101 110 0 0 4) = 0 := by simp [isWb, bI, hh]
    have o8 : bI (isWb tp a b 107 101 101 112 0 0 4) = 0 := by simp [isWb, bI, hh]
    have o9 : bI (isWb tp a b 111 114 0 0 0 0 2) = 0 := by simp [isWb, bI, hh]
    have o10 : bI (isWb tp a b 97 110 100 0 0 0 3) = 0 := by simp [isWb, bI, hh]
    have o11 : bI (isWb tp a b 110 111 116 0 0 0 3) = 0 := by simp [isWb, bI, hh]
    have o0 : bI (isWb tp a b 111 117 110 99 101 115 6) = 1 := by simp [bI, h0]
    rw [o0, o1, o2, o3, o4, o5, o6, o7, o8, o9, o10, o11]
    decide
  by_cases h1 : isWb tp a b 97 112 97 114 116 0 5 = true
  · have hh := h1
    simp [isWb] at hh
    have o2 : bI (isWb tp a b 115 105 122 101 0 0 4) = 0 := by simp [isWb, bI, hh]
    have o3 : bI (isWb tp a b 119 111 114 110 0 0 4) = 0 := by simp [isWb, bI, hh]
    have o4 : bI (isWb tp a b 102 97 100 101 100 0 5) = 0 := by simp [isWb, bI, hh]
    have o5 : bI (isWb tp a b 118 97 116 0 0 0 3) = 0 := by simp [isWb, bI, hh]
    have o6 : bI (isWb tp a b 98 101 97 114 0 0 4) = 0 := by simp [isWb, bI, hh]
    have o7 : bI (isWb tp a b 115 101 101 110 0 0 4) = 0 := by simp [isWb, bI, hh]
    have o8 : bI (isWb tp a b 107 101 101 112 0 0 4) = 0 := by simp [isWb, bI, hh]
    have o9 : bI (isWb tp a b 111 114 0 0 0 0 2) = 0 := by simp [isWb, bI, hh]
    have o10 : bI (isWb tp a b 97 110 100 0 0 0 3) = 0 := by simp [isWb, bI, hh]
    have o11 : bI (isWb tp a b 110 111 116 0 0 0 3) = 0 := by simp [isWb, bI, hh]
    have o0 : bI (isWb tp a b 111 117 110 99 101 115 6) = 0 := by simp [bI, h0]
    have o1 : bI (isWb tp a b 97 112 97 114 116 0 5) = 1 := by simp [bI, h1]
    rw [o0, o1, o2, o3, o4, o5, o6, o7, o8, o9, o10, o11]
    decide
  by_cases h2 : isWb tp a b 115 105 122 101 0 0 4 = true
  · have hh := h2
    simp [isWb] at hh
    have o3 : bI (isWb tp a b 119 111 114 110 0 0 4) = 0 := by simp [isWb, bI, hh]
    have o4 : bI (isWb tp a b 102 97 100 101 100 0 5) = 0 := by simp [isWb, bI, hh]
    have o5 : bI (isWb tp a b 118 97 116 0 0 0 3) = 0 := by simp [isWb, bI, hh]
    have o6 : bI (isWb tp a b 98 101 97 114 0 0 4) = 0 := by simp [isWb, bI, hh]
    have o7 : bI (isWb tp a b 115 101 101 110 0 0 4) = 0 := by simp [isWb, bI, hh]
    have o8 : bI (isWb tp a b 107 101 101 112 0 0 4) = 0 := by simp [isWb, bI, hh]
    have o9 : bI (isWb tp a b 111 114 0 0 0 0 2) = 0 := by simp [isWb, bI, hh]
    have o10 : bI (isWb tp a b 97 110 100 0 0 0 3) = 0 := by simp [isWb, bI, hh]
    have o11 : bI (isWb tp a b 110 111 116 0 0 0 3) = 0 := by simp [isWb, bI, hh]
    have o0 : bI (isWb tp a b 111 117 110 99 101 115 6) = 0 := by simp [bI, h0]
    have o1 : bI (isWb tp a b 97 112 97 114 116 0 5) = 0 := by simp [bI, h1]
    have o2 : bI (isWb tp a b 115 105 122 101 0 0 4) = 1 := by simp [bI, h2]
    rw [o0, o1, o2, o3, o4, o5, o6, o7, o8, o9, o10, o11]
    decide
  by_cases h3 : isWb tp a b 119 111 114 110 0 0 4 = true
  · have hh := h3
    simp [isWb] at hh
    have o4 : bI (isWb tp a b 102 97 100 101 100 0 5) = 0 := by simp [isWb, bI, hh]
    have o5 : bI (isWb tp a b 118 97 116 0 0 0 3) = 0 := by simp [isWb, bI, hh]
    have o6 : bI (isWb tp a b 98 101 97 114 0 0 4) = 0 := by simp [isWb, bI, hh]
    have o7 : bI (isWb tp a b 115 101 101 110 0 0 4) = 0 := by simp [isWb, bI, hh]
    have o8 : bI (isWb tp a b 107 101 101 112 0 0 4) = 0 := by simp [isWb, bI, hh]
    have o9 : bI (isWb tp a b 111 114 0 0 0 0 2) = 0 := by simp [isWb, bI, hh]
    have o10 : bI (isWb tp a b 97 110 100 0 0 0 3) = 0 := by simp [isWb, bI, hh]
    have o11 : bI (isWb tp a b 110 111 116 0 0 0 3) = 0 := by simp [isWb, bI, hh]
    have o0 : bI (isWb tp a b 111 117 110 99 101 115 6) = 0 := by simp [bI, h0]
    have o1 : bI (isWb tp a b 97 112 97 114 116 0 5) = 0 := by simp [bI, h1]
    have o2 : bI (isWb tp a b 115 105 122 101 0 0 4) = 0 := by simp [bI, h2]
    have o3 : bI (isWb tp a b 119 111 114 110 0 0 4) = 1 := by simp [bI, h3]
    rw [o0, o1, o2, o3, o4, o5, o6, o7, o8, o9, o10, o11]
    decide
  by_cases h4 : isWb tp a b 102 97 100 101 100 0 5 = true
  · have hh := h4
    simp [isWb] at hh
    have o5 : bI (isWb tp a b 118 97 116 0 0 0 3) = 0 := by simp [isWb, bI, hh]
    have o6 : bI (isWb tp a b 98 101 97 114 0 0 4) = 0 := by simp [isWb, bI, hh]
    have o7 : bI (isWb tp a b 115 101 101 110 0 0 4) = 0 := by simp [isWb, bI, hh]
    have o8 : bI (isWb tp a b 107 101 101 112 0 0 4) = 0 := by simp [isWb, bI, hh]
    have o9 : bI (isWb tp a b 111 114 0 0 0 0 2) = 0 := by simp [isWb, bI, hh]
    have o10 : bI (isWb tp a b 97 110 100 0 0 0 3) = 0 := by simp [isWb, bI, hh]
    have o11 : bI (isWb tp a b 110 111 116 0 0 0 3) = 0 := by simp [isWb, bI, hh]
    have o0 : bI (isWb tp a b 111 117 110 99 101 115 6) = 0 := by simp [bI, h0]
    have o1 : bI (isWb tp a b 97 112 97 114 116 0 5) = 0 := by simp [bI, h1]
    have o2 : bI (isWb tp a b 115 105 122 101 0 0 4) = 0 := by simp [bI, h2]
    have o3 : bI (isWb tp a b 119 111 114 110 0 0 4) = 0 := by simp [bI, h3]
    have o4 : bI (isWb tp a b 102 97 100 101 100 0 5) = 1 := by simp [bI, h4]
    rw [o0, o1, o2, o3, o4, o5, o6, o7, o8, o9, o10, o11]
    decide
  by_cases h5 : isWb tp a b 118 97 116 0 0 0 3 = true
  · have hh := h5
    simp [isWb] at hh
    have o6 : bI (isWb tp a b 98 101 97 114 0 0 4) = 0 := by simp [isWb, bI, hh]
    have o7 : bI (isWb tp a b 115 101 101 110 0 0 4) = 0 := by simp [isWb, bI, hh]
    have o8 : bI (isWb tp a b 107 101 101 112 0 0 4) = 0 := by simp [isWb, bI, hh]
    have o9 : bI (isWb tp a b 111 114 0 0 0 0 2) = 0 := by simp [isWb, bI, hh]
    have o10 : bI (isWb tp a b 97 110 100 0 0 0 3) = 0 := by simp [isWb, bI, hh]
    have o11 : bI (isWb tp a b 110 111 116 0 0 0 3) = 0 := by simp [isWb, bI, hh]
    have o0 : bI (isWb tp a b 111 117 110 99 101 115 6) = 0 := by simp [bI, h0]
    have o1 : bI (isWb tp a b 97 112 97 114 116 0 5) = 0 := by simp [bI, h1]
    have o2 : bI (isWb tp a b 115 105 122 101 0 0 4) = 0 := by simp [bI, h2]
    have o3 : bI (isWb tp a b 119 111 114 110 0 0 4) = 0 := by simp [bI, h3]
    have o4 : bI (isWb tp a b 102 97 100 101 100 0 5) = 0 := by simp [bI, h4]
    have o5 : bI (isWb tp a b 118 97 116 0 0 0 3) = 1 := by simp [bI, h5]
    rw [o0, o1, o2, o3, o4, o5, o6, o7, o8, o9, o10, o11]
    decide
  by_cases h6 : isWb tp a b 98 101 97 114 0 0 4 = true
  · have hh := h6
    simp [isWb] at hh
    have o7 : bI (isWb tp a b 115 101 101 110 0 0 4) = 0 := by simp [isWb, bI, hh]
    have o8 : bI (isWb tp a b 107 101 101 112 0 0 4) = 0 := by simp [isWb, bI, hh]
    have o9 : bI (isWb tp a b 111 114 0 0 0 0 2) = 0 := by simp [isWb, bI, hh]
    have o10 : bI (isWb tp a b 97 110 100 0 0 0 3) = 0 := by simp [isWb, bI, hh]
    have o11 : bI (isWb tp a b 110 111 116 0 0 0 3) = 0 := by simp [isWb, bI, hh]
    have o0 : bI (isWb tp a b 111 117 110 99 101 115 6) = 0 := by simp [bI, h0]
    have o1 : bI (isWb tp a b 97 112 97 114 116 0 5) = 0 := by simp [bI, h1]
    have o2 : bI (isWb tp a b 115 105 122 101 0 0 4) = 0 := by simp [bI, h2]
    have o3 : bI (isWb tp a b 119 111 114 110 0 0 4) = 0 := by simp [bI, h3]
    have o4 : bI (isWb tp a b 102 97 100 101 100 0 5) = 0 := by simp [bI, h4]
    have o5 : bI (isWb tp a b 118 97 116 0 0 0 3) = 0 := by simp [bI, h5]
    have o6 : bI (isWb tp a b 98 101 97 114 0 0 4) = 1 := by simp [bI, h6]
    rw [o0, o1, o2, o3, o4, o5, o6, o7, o8, o9, o10, o11]
    decide
  by_cases h7 : isWb tp a b 115 101 101 110 0 0 4 = true
  · have hh := h7
    simp [isWb] at hh
    have o8 : bI (isWb tp a b 107 101 101 112 0 0 4) = 0 := by simp [isWb, bI, hh]
    have o9 : bI (isWb tp a b 111 114 0 0 0 0 2) = 0 := by simp [isWb, bI, hh]
    have o10 : bI (isWb tp a b 97 110 100 0 0 0 3) = 0 := by simp [isWb, bI, hh]
    have o11 : bI (isWb tp a b 110 111 116 0 0 0 3) = 0 := by simp [isWb, bI, hh]
    have o0 : bI (isWb tp a b 111 117 110 99 101 115 6) = 0 := by simp [bI, h0]
    have o1 : bI (isWb tp a b 97 112 97 114 116 0 5) = 0 := by simp [bI, h1]
    have o2 : bI (isWb tp a b 115 105 122 101 0 0 4) = 0 := by simp [bI, h2]
    have o3 : bI (isWb tp a b 119 111 114 110 0 0 4) = 0 := by simp [bI, h3]
    have o4 : bI (isWb tp a b 102 97 100 101 100 0 5) = 0 := by simp [bI, h4]
    have o5 : bI (isWb tp a b 118 97 116 0 0 0 3) = 0 := by simp [bI, h5]
    have o6 : bI (isWb tp a b 98 101 97 114 0 0 4) = 0 := by simp [bI, h6]
    have o7 : bI (isWb tp a b 115 101 101 110 0 0 4) = 1 := by simp [bI, h7]
    rw [o0, o1, o2, o3, o4, o5, o6, o7, o8, o9, o10, o11]
    decide
  by_cases h8 : isWb tp a b 107 101 101 112 0 0 4 = true
  · have hh := h8
    simp [isWb] at hh
    have o9 : bI (isWb tp a b 111 114 0 0 0 0 2) = 0 := by simp [isWb, bI, hh]
    have o10 : bI (isWb tp a b 97 110 100 0 0 0 3) = 0 := by simp [isWb, bI, hh]
    have o11 : bI (isWb tp a b 110 111 116 0 0 0 3) = 0 := by simp [isWb, bI, hh]
    have o0 : bI (isWb tp a b 111 117 110 99 101 115 6) = 0 := by simp [bI, h0]
    have o1 : bI (isWb tp a b 97 112 97 114 116 0 5) = 0 := by simp [bI, h1]
    have o2 : bI (isWb tp a b 115 105 122 101 0 0 4) = 0 := by simp [bI, h2]
    have o3 : bI (isWb tp a b 119 111 114 110 0 0 4) = 0 := by simp [bI, h3]
    have o4 : bI (isWb tp a b 102 97 100 101 100 0 5) = 0 := by simp [bI, h4]
    have o5 : bI (isWb tp a b 118 97 116 0 0 0 3) = 0 := by simp [bI, h5]
    have o6 : bI (isWb tp a b 98 101 97 114 0 0 4) = 0 := by simp [bI, h6]
    have o7 : bI (isWb tp a b 115 101 101 110 0 0 4) = 0 := by simp [bI, h7]
    have o8 : bI (isWb tp a b 107 101 101 112 0 0 4) = 1 := by simp [bI, h8]
    rw [o0, o1, o2, o3, o4, o5, o6, o7, o8, o9, o10, o11]
    decide
  by_cases h9 : isWb tp a b 111 114 0 0 0 0 2 = true
  · have hh := h9
    simp [isWb] at hh
    have o10 : bI (isWb tp a b 97 110 100 0 0 0 3) = 0 := by simp [isWb, bI, hh]
    have o11 : bI (isWb tp a b 110 111 116 0 0 0 3) = 0 := by simp [isWb, bI, hh]
    have o0 : bI (isWb tp a b 111 117 110 99 101 115 6) = 0 := by simp [bI, h0]
    have o1 : bI (isWb tp a b 97 112 97 114 116 0 5) = 0 := by simp [bI, h1]
    have o2 : bI (isWb tp a b 115 105 122 101 0 0 4) = 0 := by simp [bI, h2]
    have o3 : bI (isWb tp a b 119 111 114 110 0 0 4) = 0 := by simp [bI, h3]
    have o4 : bI (isWb tp a b 102 97 100 101 100 0 5) = 0 := by simp [bI, h4]
    have o5 : bI (isWb tp a b 118 97 116 0 0 0 3) = 0 := by simp [bI, h5]
    have o6 : bI (isWb tp a b 98 101 97 114 0 0 4) = 0 := by simp [bI, h6]
    have o7 : bI (isWb tp a b 115 101 101 110 0 0 4) = 0 := by simp [bI, h7]
    have o8 : bI (isWb tp a b 107 101 101 112 0 0 4) = 0 := by simp [bI, h8]
    have o9 : bI (isWb tp a b 111 114 0 0 0 0 2) = 1 := by simp [bI, h9]
    rw [o0, o1, o2, o3, o4, o5, o6, o7, o8, o9, o10, o11]
    decide
  by_cases h10 : isWb tp a b 97 110 100 0 0 0 3 = true
  · have hh := h10
    simp [isWb] at hh
    have o11 : bI (isWb tp a b 110 111 116 0 0 0 3) = 0 := by simp [isWb, bI, hh]
    have o0 : bI (isWb tp a b 111 117 110 99 101 115 6) = 0 := by simp [bI, h0]
    have o1 : bI (isWb tp a b 97 112 97 114 116 0 5) = 0 := by simp [bI, h1]
    have o2 : bI (isWb tp a b 115 105 122 101 0 0 4) = 0 := by simp [bI, h2]
    have o3 : bI (isWb tp a b 119 111 114 110 0 0 4) = 0 := by simp [bI, h3]
    have o4 : bI (isWb tp a b 102 97 100 101 100 0 5) = 0 := by simp [bI, h4]
    have o5 : bI (isWb tp a b 118 97 116 0 0 0 3) = 0 := by simp [bI, h5]
    have o6 : bI (isWb tp a b 98 101 97 114 0 0 4) = 0 := by simp [bI, h6]
    have o7 : bI (isWb tp a b 115 101 101 110 0 0 4) = 0 := by simp [bI, h7]
    have o8 : bI (isWb tp a b 107 101 101 112 0 0 4) = 0 := by simp [bI, h8]
    have o9 : bI (isWb tp a b 111 114 0 0 0 0 2) = 0 := by simp [bI, h9]
    have o10 : bI (isWb tp a b 97 110 100 0 0 0 3) = 1 := by simp [bI, h10]
    rw [o0, o1, o2, o3, o4, o5, o6, o7, o8, o9, o10, o11]
    decide
  by_cases h11 : isWb tp a b 110 111 116 0 0 0 3 = true
  · have hh := h11
    simp [isWb] at hh
    have o0 : bI (isWb tp a b 111 117 110 99 101 115 6) = 0 := by simp [bI, h0]
    have o1 : bI (isWb tp a b 97 112 97 114 116 0 5) = 0 := by simp [bI, h1]
    have o2 : bI (isWb tp a b 115 105 122 101 0 0 4) = 0 := by simp [bI, h2]
    have o3 : bI (isWb tp a b 119 111 114 110 0 0 4) = 0 := by simp [bI, h3]
    have o4 : bI (isWb tp a b 102 97 100 101 100 0 5) = 0 := by simp [bI, h4]
    have o5 : bI (isWb tp a b 118 97 116 0 0 0 3) = 0 := by simp [bI, h5]
    have o6 : bI (isWb tp a b 98 101 97 114 0 0 4) = 0 := by simp [bI, h6]
    have o7 : bI (isWb tp a b 115 101 101 110 0 0 4) = 0 := by simp [bI, h7]
    have o8 : bI (isWb tp a b 107 101 101 112 0 0 4) = 0 := by simp [bI, h8]
    have o9 : bI (isWb tp a b 111 114 0 0 0 0 2) = 0 := by simp [bI, h9]
    have o10 : bI (isWb tp a b 97 110 100 0 0 0 3) = 0 := by simp [bI, h10]
    have o11 : bI (isWb tp a b 110 111 116 0 0 0 3) = 1 := by simp [bI, h11]
    rw [o0, o1, o2, o3, o4, o5, o6, o7, o8, o9, o10, o11]
    decide
  have o0 : bI (isWb tp a b 111 117 110 99 101 115 6) = 0 := by simp [bI, h0]
  have o1 : bI (isWb tp a b 97 112 97 114 116 0 5) = 0 := by simp [bI, h1]
  have o2 : bI (isWb tp a b 115 105 122 101 0 0 4) = 0 := by simp [bI, h2]
  have o3 : bI (isWb tp a b 119 111 114 110 0 0 4) = 0 := by simp [bI, h3]
  have o4 : bI (isWb tp a b 102 97 100 101 100 0 5) = 0 := by simp [bI, h4]
  have o5 : bI (isWb tp a b 118 97 116 0 0 0 3) = 0 := by simp [bI, h5]
  have o6 : bI (isWb tp a b 98 101 97 114 0 0 4) = 0 := by simp [bI, h6]
  have o7 : bI (isWb tp a b 115 101 101 110 0 0 4) = 0 := by simp [bI, h7]
  have o8 : bI (isWb tp a b 107 101 101 112 0 0 4) = 0 := by simp [bI, h8]
  have o9 : bI (isWb tp a b 111 114 0 0 0 0 2) = 0 := by simp [bI, h9]
  have o10 : bI (isWb tp a b 97 110 100 0 0 0 3) = 0 := by simp [bI, h10]
  have o11 : bI (isWb tp a b 110 111 116 0 0 0 3) = 0 := by simp [bI, h11]
  rw [o0, o1, o2, o3, o4, o5, o6, o7, o8, o9, o10, o11]
  decide
