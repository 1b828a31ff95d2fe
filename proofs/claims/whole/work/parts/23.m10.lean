/-! THE REFERENCE: good partings, the best of them -/
def gdB (S : MS) (n c p : Nat) : Bool := decide (f1 (w1 p n) 5 = 5 ∧ f1 (w3 S c p) 6 = 6 ∧ f1 (w2 S c p) n = n)
abbrev gd (S : MS) (n c p : Nat) : Prop := gdB S n c p = true
theorem f1_all {Pr : Nat → Bool} {n : Nat} : f1 Pr n = n ↔ ∀ k, k < n → Pr k = false := ⟨fun h k hk => fa_first_no Pr n k (by unfold f1 at h; omega), f1_no⟩
theorem gdE {S : MS} {n c p : Nat} : gd S n c p ↔ (∀ k, k < 5 → dg p k < n) ∧ (∀ q, q < 6 → ¬ mMeet S c (nI q) (dg p (oN q)) (dg p (tN2 q)) = 0) ∧ (∀ h, h < n → ¬ S 2 h < gvn S c p h) := by
  unfold gd gdB
  rw [decide_eq_true_iff, f1_all, f1_all, f1_all]
  simp only [w1, w2, w3, decide_eq_false_iff_not, Nat.not_le]
def gdI (S : MS) (n c p : Nat) : Int32 := if gd S n c p then 1 else 0
theorem gdI_0 {S : MS} {n c p : Nat} : gdI S n c p = 0 ↔ ¬ gd S n c p := by
  unfold gdI
  by_cases h : gd S n c p
  · rw [if_pos h]; exact ⟨fun e => absurd e (by decide), fun e => absurd h e⟩
  · rw [if_neg h]; exact ⟨fun _ => h, fun _ => rfl⟩
theorem gdI_n {S : MS} {n c p : Nat} (h : ¬ gd S n c p) : (0 : Int32) = gdI S n c p := (gdI_0.mpr h).symm
theorem gdI_y {S : MS} {n c p : Nat} (h : gd S n c p) : (1 : Int32) = gdI S n c p := (if_pos h).symm
theorem gdI_01 (S : MS) (n c p : Nat) : gdI S n c p = 0 ∨ gdI S n c p = 1 := by unfold gdI; split <;> simp
set_option maxHeartbeats 4000000 in
set_option maxRecDepth 100000 in
theorem lp_gd1 (G : Gt) (m : Nat) (h0 : Ht) (S : MS) (T0 : MS) (n c p : Nat) (hI : HI S n) (hc : c < 8) (hp : p < 7776) (h0f : fr scc S T0) (hM : MT S n c 216 T0) (K : ∀ T : MS, fr [30, 31] T0 T → (∀ k, k < 5 → T 30 k = nI (dg p k)) → (∀ k, k < 5 → dg p k < n) → PX G (MPic G m h0) 2 Y12_isGood 33 [some (.ref m), some (.int (nI c)), some (.int (nI p)), some (.int (nI 5))] [] T 0 0 (ri (fun x S' => x = gdI S n c p ∧ fr [30, 31] T0 S' ∧ (gd S n c p → ∀ h, h < 6 → S' 31 h = gvn S c p h)))) : ∀ (kk i : Nat) (T : MS), fr [30, 31] T0 T → (∀ k, k < 5 → T 30 k = nI (dg p k)) → (∀ k, k < i → dg p k < n) → i ≤ 5 → 6 ≤ i + kk → PX G (MPic G m h0) 2 Y12_isGood 7 [some (.ref m), some (.int (nI c)), some (.int (nI p)), some (.int (nI i))] [] T 0 0 (ri (fun x S' => x = gdI S n c p ∧ fr [30, 31] T0 S' ∧ (gd S n c p → ∀ h, h < 6 → S' 31 h = gvn S c p h))) := by
  intro kk
  induction kk with
  | zero => intro i T h1 h2 h3 h4 h5; omega
  | succ kk ih =>
    intro i T hf hd hb hi hk
    refine px_iload_n dX12_isGood_7 rfl rfl ?_
    refine px_iconst (v := 5) dX12_isGood_8 (by decide) ?_
    refine px_icmp_ge (tgt := 33) dX12_isGood_9 (by decide) (fun H9 => ?_) (fun H9 => ?_)
    · skip
      have e5 : i = 5 := by have := ge_n (a := i) (b := 5) (by omega) (by omega) H9; omega
      subst e5
      exact K T hf hd hb
    · skip
      have l5 : i < 5 := lt_n (a := i) (b := 5) (by omega) (by omega) H9
      refine px_aload_n dX12_isGood_12 rfl rfl ?_
      refine mx_getA (k := 30) (j := 17) dX12_isGood_13 gX12_67 (fun _ => rfl) ?_
      refine px_iload_n dX12_isGood_16 rfl rfl ?_
      refine mx_iald (j := 17) (k := 30) _ dX12_isGood_17 rfl rfl (by omega) (by decide) ?_
      refine px_aload_n dX12_isGood_18 rfl rfl ?_
      refine mx_getI (k := 1) dX12_isGood_19 gX12_106 (fun _ => rfl) ?_
      refine px_icmp_lt (tgt := 27) dX12_isGood_22 (by decide) (fun H22 => ?_) (fun H22 => ?_)
      · skip
        rw [hd i l5] at H22
        rw [((hI.go (frc h0f)).go (hf.mono (by decide))).1] at H22
        have h6 := hI.2.1
        have d6 := dg_lt p i
        have b22 := lt_n (by omega) (by omega) H22
        refine px_iinc_3 (v := 1) dX12_isGood_27 (by decide) (by decide) rfl ?_
        refine px_goto (tgt := 7) dX12_isGood_30 (by decide) ?_
        rw [nI_1]
        refine ih (i + 1) T hf hd (fun k hk => ?_) (by omega) (by omega)
        rcases Nat.lt_or_ge k i with q | q
        · exact hb k q
        · rw [show k = i by omega]; exact b22
      · skip
        rw [hd i l5] at H22
        rw [((hI.go (frc h0f)).go (hf.mono (by decide))).1] at H22
        have h6 := hI.2.1
        have d6 := dg_lt p i
        have b22 := ge_n (by omega) (by omega) H22
        have ng : ¬ gd S n c p := fun g => by have := (gdE.mp g).1 i l5; omega
        refine px_iconst (v := 0) dX12_isGood_25 (by decide) ?_
        refine px_iretZ dX12_isGood_26 rfl (by first | rfl | decide) ?_
        exact ⟨gdI_n ng, hf, fun g => absurd g ng⟩
set_option maxHeartbeats 4000000 in
set_option maxRecDepth 100000 in
theorem lp_gd2 (G : Gt) (m : Nat) (h0 : Ht) (S : MS) (T0 : MS) (n c p : Nat) (hI : HI S n) (hc : c < 8) (hp : p < 7776) (h0f : fr scc S T0) (hM : MT S n c 216 T0) (hb1 : (∀ k, k < 5 → dg p k < n)) (K : ∀ T : MS, fr [30, 31] T0 T → (∀ k, k < 5 → T 30 k = nI (dg p k)) → (∀ q, q < 6 → ¬ mMeet S c (nI q) (dg p (oN q)) (dg p (tN2 q)) = 0) → PX G (MPic G m h0) 2 Y12_isGood 84 [some (.ref m), some (.int (nI c)), some (.int (nI p)), some (.int (nI 6))] [] T 0 0 (ri (fun x S' => x = gdI S n c p ∧ fr [30, 31] T0 S' ∧ (gd S n c p → ∀ h, h < 6 → S' 31 h = gvn S c p h)))) : ∀ (kk i : Nat) (T : MS), fr [30, 31] T0 T → (∀ k, k < 5 → T 30 k = nI (dg p k)) → (∀ q, q < i → ¬ mMeet S c (nI q) (dg p (oN q)) (dg p (tN2 q)) = 0) → i ≤ 6 → 7 ≤ i + kk → PX G (MPic G m h0) 2 Y12_isGood 35 [some (.ref m), some (.int (nI c)), some (.int (nI p)), some (.int (nI i))] [] T 0 0 (ri (fun x S' => x = gdI S n c p ∧ fr [30, 31] T0 S' ∧ (gd S n c p → ∀ h, h < 6 → S' 31 h = gvn S c p h))) := by
  intro kk
  induction kk with
  | zero => intro i T h1 h2 h3 h4 h5; omega
  | succ kk ih =>
    intro i T hf hd hb hi hk
    have h6 := hI.2.1
    refine px_iload_n dX12_isGood_35 rfl rfl ?_
    refine px_bipush (v := 6) dX12_isGood_36 (by decide) ?_
    refine px_icmp_ge (tgt := 84) dX12_isGood_38 (by decide) (fun H38 => ?_) (fun H38 => ?_)
    · skip
      have e5 : i = 6 := by have := ge_n (a := i) (b := 6) (by omega) (by omega) H38; omega
      subst e5
      exact K T hf hd hb
    · skip
      have l5 : i < 6 := lt_n (a := i) (b := 6) (by omega) (by omega) H38
      have ob := oN_lt l5
      have a1 := hb1 _ ob.1
      have a2 := hb1 _ ob.2
      refine px_aload_n dX12_isGood_41 rfl rfl ?_
      refine mx_getA (k := 35) (j := 19) dX12_isGood_42 gX12_73 (fun _ => rfl) ?_
      refine px_bipush (v := 36) dX12_isGood_45 (by decide) ?_
      refine px_iload_n dX12_isGood_47 rfl rfl ?_
      refine px_imul dX12_isGood_48 ?_
      refine px_bipush (v := 6) dX12_isGood_49 (by decide) ?_
      refine px_aload_n dX12_isGood_51 rfl rfl ?_
      refine mx_getA (k := 30) (j := 17) dX12_isGood_52 gX12_67 (fun _ => rfl) ?_
      refine px_iload_n dX12_isGood_55 rfl rfl ?_
      refine px_pure1 dX12_isGood_56 lX12_236 (c_X12_oneOf G _) (by decide) (Nat.le_of_ble_eq_true rfl) ?_
      refine mx_iald (j := 17) (k := 30) (oN i) dX12_isGood_59 rfl (mOne_n l5) (by omega) (by decide) ?_
      refine px_top (hd _ ob.1) ?_
      refine px_imul dX12_isGood_60 ?_
      refine px_iadd dX12_isGood_61 ?_
      refine px_aload_n dX12_isGood_62 rfl rfl ?_
      refine mx_getA (k := 30) (j := 17) dX12_isGood_63 gX12_67 (fun _ => rfl) ?_
      refine px_iload_n dX12_isGood_66 rfl rfl ?_
      refine px_pure1 dX12_isGood_67 lX12_239 (c_X12_otherOf G _) (by decide) (Nat.le_of_ble_eq_true rfl) ?_
      refine mx_iald (j := 17) (k := 30) (tN2 i) dX12_isGood_70 rfl (mOther_n l5) (by omega) (by decide) ?_
      refine px_top (hd _ ob.2) ?_
      refine px_iadd dX12_isGood_71 ?_
      refine mx_zald (j := 19) (k := 35) (36 * i + 6 * dg p (oN i) + dg p (tN2 i)) dX12_isGood_72 rfl n36 (by omega) (by decide) ?_
      refine px_top (y := mMeet S c (nI i) (dg p (oN i)) (dg p (tN2 i))) (by rw [hf 35 (by decide)]; exact hM i _ _ l5 a1 a2 (by omega)) ?_
      refine px_if_ne (tgt := 78) dX12_isGood_73 (by decide) (fun H73 => ?_) (fun H73 => ?_)
      · skip
        refine px_iinc_3 (v := 1) dX12_isGood_78 (by decide) (by decide) rfl ?_
        refine px_goto (tgt := 35) dX12_isGood_81 (by decide) ?_
        rw [nI_1]
        refine ih (i + 1) _ hf hd (fun k hk => ?_) (by omega) (by omega)
        rcases Nat.lt_or_ge k i with q | q
        · exact hb k q
        · rw [show k = i by omega]; exact H73
      · skip
        have ng : ¬ gd S n c p := fun g => (gdE.mp g).2.1 i l5 H73
        refine px_iconst (v := 0) dX12_isGood_76 (by decide) ?_
        refine px_iretZ dX12_isGood_77 rfl (by first | rfl | decide) ?_
        exact ⟨gdI_n ng, hf, fun g => absurd g ng⟩
set_option maxHeartbeats 4000000 in
set_option maxRecDepth 100000 in
theorem lp_gd3 (G : Gt) (m : Nat) (h0 : Ht) (S : MS) (T0 : MS) (n c p : Nat) (hI : HI S n) (hc : c < 8) (hp : p < 7776) (h0f : fr scc S T0) (hM : MT S n c 216 T0) (K : ∀ T : MS, fr [30, 31] T0 T → (∀ k, k < 5 → T 30 k = nI (dg p k)) → (∀ h, h < 6 → T 31 h = 0) → PX G (MPic G m h0) 2 Y12_isGood 105 [some (.ref m), some (.int (nI c)), some (.int (nI p)), some (.int (nI 6))] [] T 0 0 (ri (fun x S' => x = gdI S n c p ∧ fr [30, 31] T0 S' ∧ (gd S n c p → ∀ h, h < 6 → S' 31 h = gvn S c p h)))) : ∀ (kk i : Nat) (T : MS), fr [30, 31] T0 T → (∀ k, k < 5 → T 30 k = nI (dg p k)) → (∀ h, h < i → T 31 h = 0) → i ≤ 6 → 7 ≤ i + kk → PX G (MPic G m h0) 2 Y12_isGood 86 [some (.ref m), some (.int (nI c)), some (.int (nI p)), some (.int (nI i))] [] T 0 0 (ri (fun x S' => x = gdI S n c p ∧ fr [30, 31] T0 S' ∧ (gd S n c p → ∀ h, h < 6 → S' 31 h = gvn S c p h))) := by
  intro kk
  induction kk with
  | zero => intro i T h1 h2 h3 h4 h5; omega
  | succ kk ih =>
    intro i T hf hd hb hi hk
    refine px_iload_n dX12_isGood_86 rfl rfl ?_
    refine px_bipush (v := 6) dX12_isGood_87 (by decide) ?_
    refine px_icmp_ge (tgt := 105) dX12_isGood_89 (by decide) (fun H89 => ?_) (fun H89 => ?_)
    · skip
      have e5 : i = 6 := by have := ge_n (a := i) (b := 6) (by omega) (by omega) H89; omega
      subst e5
      exact K T hf hd hb
    · skip
      have l5 : i < 6 := lt_n (a := i) (b := 6) (by omega) (by omega) H89
      refine px_aload_n dX12_isGood_92 rfl rfl ?_
      refine mx_getA (k := 31) (j := 18) dX12_isGood_93 gX12_70 (fun _ => rfl) ?_
      refine px_iload_n dX12_isGood_96 rfl rfl ?_
      refine px_iconst (v := 0) dX12_isGood_97 (by decide) ?_
      refine mx_iast (j := 18) (k := 31) _ dX12_isGood_98 rfl rfl (by omega) (by decide) ?_
      refine px_iinc_3 (v := 1) dX12_isGood_99 (by decide) (by decide) rfl ?_
      refine px_goto (tgt := 86) dX12_isGood_102 (by decide) ?_
      rw [nI_1]
      refine ih (i + 1) _ (hf.up (by decide)) hd (fun h hh => ?_) (by omega) (by omega)
      rw [up2_eq]
      by_cases e : h = i
      · subst e; exact pk_us
      · rw [pk_un e]; exact hb h (by omega)
set_option maxHeartbeats 4000000 in
set_option maxRecDepth 100000 in
theorem lp_gd4 (G : Gt) (m : Nat) (h0 : Ht) (S : MS) (T0 : MS) (n c p : Nat) (hI : HI S n) (hc : c < 8) (hp : p < 7776) (h0f : fr scc S T0) (hM : MT S n c 216 T0) (K : ∀ T : MS, fr [30, 31] T0 T → (∀ h, h < 6 → T 31 h = gvn S c p h) → PX G (MPic G m h0) 2 Y12_isGood 138 [some (.ref m), some (.int (nI c)), some (.int (nI p)), some (.int (nI 5))] [] T 0 0 (ri (fun x S' => x = gdI S n c p ∧ fr [30, 31] T0 S' ∧ (gd S n c p → ∀ h, h < 6 → S' 31 h = gvn S c p h)))) : ∀ (kk i : Nat) (T : MS), fr [30, 31] T0 T → (∀ k, k < 5 → T 30 k = nI (dg p k)) → (∀ h, h < 6 → T 31 h = gv5 S c p h i) → i ≤ 5 → 6 ≤ i + kk → PX G (MPic G m h0) 2 Y12_isGood 107 [some (.ref m), some (.int (nI c)), some (.int (nI p)), some (.int (nI i))] [] T 0 0 (ri (fun x S' => x = gdI S n c p ∧ fr [30, 31] T0 S' ∧ (gd S n c p → ∀ h, h < 6 → S' 31 h = gvn S c p h))) := by
  intro kk
  induction kk with
  | zero => intro i T h1 h2 h3 h4 h5; omega
  | succ kk ih =>
    intro i T hf hd hb hi hk
    refine px_iload_n dX12_isGood_107 rfl rfl ?_
    refine px_iconst (v := 5) dX12_isGood_108 (by decide) ?_
    refine px_icmp_ge (tgt := 138) dX12_isGood_109 (by decide) (fun H109 => ?_) (fun H109 => ?_)
    · skip
      have e5 : i = 5 := by have := ge_n (a := i) (b := 5) (by omega) (by omega) H109; omega
      subst e5
      exact K T hf hb
    · skip
      have l5 : i < 5 := lt_n (a := i) (b := 5) (by omega) (by omega) H109
      have d6 := dg_lt p i
      refine px_aload_n dX12_isGood_112 rfl rfl ?_
      refine mx_getA (k := 31) (j := 18) dX12_isGood_113 gX12_70 (fun _ => rfl) ?_
      refine px_aload_n dX12_isGood_116 rfl rfl ?_
      refine mx_getA (k := 30) (j := 17) dX12_isGood_117 gX12_67 (fun _ => rfl) ?_
      refine px_iload_n dX12_isGood_120 rfl rfl ?_
      refine mx_iald (j := 17) (k := 30) _ dX12_isGood_121 rfl rfl (by omega) (by decide) ?_
      refine px_dup2 dX12_isGood_122 rfl rfl ?_
      refine mx_iald (j := 18) (k := 31) (dg p i) dX12_isGood_123 rfl (hd i l5) (by omega) (by decide) ?_
      refine px_aload_n dX12_isGood_124 rfl rfl ?_
      refine px_iload_n dX12_isGood_125 rfl rfl ?_
      refine px_iload_n dX12_isGood_126 rfl rfl ?_
      refine mx_callI2 dX12_isGood_127 lX12_124 rfl (c_takes G m h0 S T c (nI i) ((frc h0f).tr (hf.mono (by decide))) hc) (by decide) (Nat.le_of_ble_eq_true rfl) (fun x127 S127 Q127 => ?_)
      obtain ⟨rfl, e127⟩ := Q127
      obtain rfl := e127.symm
      refine px_iadd dX12_isGood_130 ?_
      refine mx_iast (j := 18) (k := 31) (dg p i) dX12_isGood_131 rfl (hd i l5) (by omega) (by decide) ?_
      refine px_iinc_3 (v := 1) dX12_isGood_132 (by decide) (by decide) rfl ?_
      refine px_goto (tgt := 107) dX12_isGood_135 (by decide) ?_
      rw [nI_1]
      exact ih (i + 1) _ (hf.up (by decide)) hd (gv5_up l5 hb) (by omega) (by omega)
set_option maxHeartbeats 4000000 in
set_option maxRecDepth 100000 in
theorem lp_gd5 (G : Gt) (m : Nat) (h0 : Ht) (S : MS) (T0 : MS) (n c p : Nat) (hI : HI S n) (hc : c < 8) (hp : p < 7776) (h0f : fr scc S T0) (hM : MT S n c 216 T0) (hb1 : (∀ k, k < 5 → dg p k < n)) (hb2 : (∀ q, q < 6 → ¬ mMeet S c (nI q) (dg p (oN q)) (dg p (tN2 q)) = 0)) : ∀ (kk i : Nat) (T : MS), fr [30, 31] T0 T → (∀ h, h < 6 → T 31 h = gvn S c p h) → (∀ h, h < i → ¬ S 2 h < gvn S c p h) → i ≤ n → n + 1 ≤ i + kk → PX G (MPic G m h0) 2 Y12_isGood 140 [some (.ref m), some (.int (nI c)), some (.int (nI p)), some (.int (nI i))] [] T 0 0 (ri (fun x S' => x = gdI S n c p ∧ fr [30, 31] T0 S' ∧ (gd S n c p → ∀ h, h < 6 → S' 31 h = gvn S c p h))) := by
  intro kk
  induction kk with
  | zero => intro i T h1 h2 h3 h4 h5; omega
  | succ kk ih =>
    intro i T hf hg hb hi hk
    have h6 := hI.2.1
    refine px_iload_n dX12_isGood_140 rfl rfl ?_
    refine px_aload_n dX12_isGood_141 rfl rfl ?_
    refine mx_getI (k := 1) dX12_isGood_142 gX12_106 (fun _ => rfl) ?_
    refine px_icmp_ge (tgt := 171) dX12_isGood_145 (by decide) (fun H145 => ?_) (fun H145 => ?_)
    · skip
      rw [((hI.go (frc h0f)).go (hf.mono (by decide))).1] at H145
      have e5 : i = n := by have := ge_n (by omega) (by omega) H145; omega
      rw [e5] at hb
      refine px_iconst (v := 1) dX12_isGood_171 (by decide) ?_
      refine px_iretZ dX12_isGood_172 rfl (by first | rfl | decide) ?_
      exact ⟨gdI_y (gdE.mpr ⟨hb1, hb2, hb⟩), hf, fun _ => hg⟩
    · skip
      rw [((hI.go (frc h0f)).go (hf.mono (by decide))).1] at H145
      have l5 : i < n := lt_n (by omega) (by omega) H145
      refine px_aload_n dX12_isGood_148 rfl rfl ?_
      refine mx_getA (k := 31) (j := 18) dX12_isGood_149 gX12_70 (fun _ => rfl) ?_
      refine px_iload_n dX12_isGood_152 rfl rfl ?_
      refine mx_iald (j := 18) (k := 31) _ dX12_isGood_153 rfl rfl (by omega) (by decide) ?_
      refine px_aload_n dX12_isGood_154 rfl rfl ?_
      refine mx_getA (k := 2) (j := 0) dX12_isGood_155 gX12_7 (fun _ => rfl) ?_
      refine px_iload_n dX12_isGood_158 rfl rfl ?_
      refine mx_iald (j := 0) (k := 2) _ dX12_isGood_159 rfl rfl (by omega) (by decide) ?_
      refine px_icmp_le (tgt := 165) dX12_isGood_160 (by decide) (fun H160 => ?_) (fun H160 => ?_)
      · skip
        rw [hg i (by omega), hf 2 (by decide), h0f 2 (by decide)] at H160
        refine px_iinc_3 (v := 1) dX12_isGood_165 (by decide) (by decide) rfl ?_
        refine px_goto (tgt := 140) dX12_isGood_168 (by decide) ?_
        rw [nI_1]
        refine ih (i + 1) T hf hg (fun k hk => ?_) (by omega) (by omega)
        rcases Nat.lt_or_ge k i with q | q
        · exact hb k q
        · rw [show k = i by omega]; exact H160
      · skip
        rw [hg i (by omega), hf 2 (by decide), h0f 2 (by decide)] at H160
        have ng : ¬ gd S n c p := fun g => (gdE.mp g).2.2 i l5 H160
        refine px_iconst (v := 0) dX12_isGood_163 (by decide) ?_
        refine px_iretZ dX12_isGood_164 rfl (by first | rfl | decide) ?_
        exact ⟨gdI_n ng, hf, fun g => absurd g ng⟩
set_option maxHeartbeats 4000000 in
set_option maxRecDepth 100000 in
theorem c_X12_isGood (G : Gt) (m : Nat) (h0 : Ht) (S : MS) (T0 : MS) (n c p : Nat) (hI : HI S n) (hc : c < 8) (hp : p < 7776) (h0f : fr scc S T0) (hM : MT S n c 216 T0) : PC G (MPic G m h0) 2 Y12_isGood [.ref m, .int (nI c), .int (nI p)] T0 0 0 (ri ((fun x S' => x = gdI S n c p ∧ fr [30, 31] T0 S' ∧ (gd S n c p → ∀ h, h < 6 → S' 31 h = gvn S c p h)))) := by
  refine pc_of (ls := [some (.ref m), some (.int (nI c)), some (.int (nI p)), none]) (by decide +kernel) rfl (Nat.le_of_ble_eq_true rfl) ?_
  refine px_aload_n dX12_isGood_0 rfl rfl ?_
  refine px_iload_n dX12_isGood_1 rfl rfl ?_
  refine mx_callV1 dX12_isGood_2 lX12_256 rfl (c_X12_findDigits G m h0 T0 p hp) (by decide) (Nat.le_of_ble_eq_true rfl) (fun S2 Q2 => ?_)
  obtain ⟨f2, d2⟩ := Q2
  have f2 : fr [30, 31] T0 S2 := f2.mono (by decide)
  refine px_iconst (v := 0) dX12_isGood_5 (by decide) ?_
  refine px_istore_n3 dX12_isGood_6 (by decide) rfl ?_
  refine lp_gd1 G m h0 S T0 n c p hI hc hp h0f hM (fun T1 f1 d1 hb1 => ?_) 6 0 S2 f2 d2 (fun k hk => by omega) (by omega) (by omega)
  refine px_iconst (v := 0) dX12_isGood_33 (by decide) ?_
  refine px_istore_n3 dX12_isGood_34 (by decide) rfl ?_
  refine lp_gd2 G m h0 S T0 n c p hI hc hp h0f hM hb1 (fun T2 f2b d2b hb2 => ?_) 7 0 T1 f1 d1 (fun k hk => by omega) (by omega) (by omega)
  refine px_iconst (v := 0) dX12_isGood_84 (by decide) ?_
  refine px_istore_n3 dX12_isGood_85 (by decide) rfl ?_
  refine lp_gd3 G m h0 S T0 n c p hI hc hp h0f hM (fun T3 f3 d3 z3 => ?_) 7 0 T2 f2b d2b (fun k hk => by omega) (by omega) (by omega)
  refine px_iconst (v := 0) dX12_isGood_105 (by decide) ?_
  refine px_istore_n3 dX12_isGood_106 (by decide) rfl ?_
  refine lp_gd4 G m h0 S T0 n c p hI hc hp h0f hM (fun T4 f4 g4 => ?_) 6 0 T3 f3 d3 (fun h hh => z3 h hh) (by omega) (by omega)
  refine px_iconst (v := 0) dX12_isGood_138 (by decide) ?_
  refine px_istore_n3 dX12_isGood_139 (by decide) rfl ?_
  exact lp_gd5 G m h0 S T0 n c p hI hc hp h0f hM hb1 hb2 (n + 1) 0 T4 f4 g4 (fun k hk => by omega) (by omega) (by omega)
/-- bits left at the first hanks -/
def btS (S : MS) (c p : Nat) : Nat → Int32
  | 0 => 0
  | h + 1 => btS S c p h + (if 0 < gvn S c p h ∧ ¬ mIn (S 2 h - gvn S c p h) 1 2 = 0 then S 2 h - gvn S c p h else 0)
/-- best parting, its bits, how many, of the first partings -/
def cnF (S : MS) (n c : Nat) : Nat → Int32 × Int32 × Int32
  | 0 => (-1, 0, 0)
  | p + 1 => if gd S n c p then (if (cnF S n c p).1 < 0 ∨ btS S c p n < (cnF S n c p).2.1 then (nI p, btS S c p n, (cnF S n c p).2.2 + 1) else ((cnF S n c p).1, (cnF S n c p).2.1, (cnF S n c p).2.2 + 1)) else cnF S n c p
def CT (S : MS) (n c p : Nat) (T : MS) : Prop := T 32 0 = (cnF S n c p).1 ∧ T 33 0 = (cnF S n c p).2.1 ∧ T 34 0 = (cnF S n c p).2.2
set_option maxHeartbeats 4000000 in
set_option maxRecDepth 100000 in
theorem lp_cn2 (G : Gt) (m : Nat) (h0 : Ht) (S : MS) (n c p : Nat) (T : MS) (hI : HI S n) (hc : c < 8) (hf : fr scc S T) (hg : ∀ h, h < 6 → T 31 h = gvn S c p h) (K : PX G (MPic G m h0) 6 Y12_findCan 122 [some (.ref m), some (.int (nI c)), some (.int (nI p)), some (.int (btS S c p n)), none] [] T 0 0 (rv (fun S' => fr scc S S' ∧ CT S n c 7776 S'))) : ∀ (kk i : Nat), i ≤ n → n + 1 ≤ i + kk → PX G (MPic G m h0) 6 Y12_findCan 56 [some (.ref m), some (.int (nI c)), some (.int (nI p)), some (.int (btS S c p i)), some (.int (nI i))] [] T 0 0 (rv (fun S' => fr scc S S' ∧ CT S n c 7776 S')) := by
  intro kk
  induction kk with
  | zero => intro i h1 h2; omega
  | succ kk ih =>
    intro i hi hk
    have h6 := hI.2.1
    have o2 := hf 2 (by decide)
    refine px_iload dX12_findCan_56 rfl ?_
    refine px_aload_n dX12_findCan_58 rfl rfl ?_
    refine mx_getI (k := 1) dX12_findCan_59 gX12_106 (fun _ => rfl) ?_
    refine px_icmp_ge (tgt := 122) dX12_findCan_62 (by decide) (fun H62 => ?_) (fun H62 => ?_)
    · skip
      rw [(hI.go (frc hf)).1] at H62
      have e5 : i = n := by have := ge_n (by omega) (by omega) H62; omega
      rw [e5]
      exact px_lw (by simp [LW]) K
    · skip
      rw [(hI.go (frc hf)).1] at H62
      have l5 : i < n := lt_n (by omega) (by omega) H62
      have gi := hg i (by omega)
      refine px_aload_n dX12_findCan_65 rfl rfl ?_
      refine mx_getA (k := 31) (j := 18) dX12_findCan_66 gX12_70 (fun _ => rfl) ?_
      refine px_iload dX12_findCan_69 rfl ?_
      refine mx_iald (j := 18) (k := 31) _ dX12_findCan_71 rfl rfl (by omega) (by decide) ?_
      refine px_if_le (tgt := 116) dX12_findCan_72 (by decide) (fun H72 => ?_) (fun H72 => ?_)
      · skip
        rw [gi] at H72
        refine px_iinc_4 (v := 1) dX12_findCan_116 (by decide) (by decide) rfl ?_
        refine px_goto (tgt := 56) dX12_findCan_119 (by decide) ?_
        refine px_lw (ls' := [some (.ref m), some (.int (nI c)), some (.int (nI p)), some (.int (btS S c p (i + 1))), some (.int (nI (i + 1)))]) ?_ (ih (i + 1) (by omega) (by omega))
        (simp [LW, btS, nI_1, *]; done)
      · skip
        rw [gi] at H72
        refine px_aload_n dX12_findCan_75 rfl rfl ?_
        refine mx_getA (k := 2) (j := 0) dX12_findCan_76 gX12_7 (fun _ => rfl) ?_
        refine px_iload dX12_findCan_79 rfl ?_
        refine mx_iald (j := 0) (k := 2) _ dX12_findCan_81 rfl rfl (by omega) (by decide) ?_
        refine px_aload_n dX12_findCan_82 rfl rfl ?_
        refine mx_getA (k := 31) (j := 18) dX12_findCan_83 gX12_70 (fun _ => rfl) ?_
        refine px_iload dX12_findCan_86 rfl ?_
        refine mx_iald (j := 18) (k := 31) _ dX12_findCan_88 rfl rfl (by omega) (by decide) ?_
        refine px_isub dX12_findCan_89 ?_
        refine px_iconst (v := 1) dX12_findCan_90 (by decide) ?_
        refine px_iconst (v := 2) dX12_findCan_91 (by decide) ?_
        refine px_pure3 dX12_findCan_92 lX12_109 (c_X12_in G _ _ _) (by decide) (Nat.le_of_ble_eq_true rfl) ?_
        refine px_if_eq (tgt := 116) dX12_findCan_95 (by decide) (fun H95 => ?_) (fun H95 => ?_)
        · skip
          rw [gi, o2] at H95
          refine px_iinc_4 (v := 1) dX12_findCan_116 (by decide) (by decide) rfl ?_
          refine px_goto (tgt := 56) dX12_findCan_119 (by decide) ?_
          refine px_lw (ls' := [some (.ref m), some (.int (nI c)), some (.int (nI p)), some (.int (btS S c p (i + 1))), some (.int (nI (i + 1)))]) ?_ (ih (i + 1) (by omega) (by omega))
          (simp [LW, btS, nI_1, *]; done)
        · skip
          rw [gi, o2] at H95
          refine px_iload_n dX12_findCan_98 rfl rfl ?_
          refine px_aload_n dX12_findCan_99 rfl rfl ?_
          refine mx_getA (k := 2) (j := 0) dX12_findCan_100 gX12_7 (fun _ => rfl) ?_
          refine px_iload dX12_findCan_103 rfl ?_
          refine mx_iald (j := 0) (k := 2) _ dX12_findCan_105 rfl rfl (by omega) (by decide) ?_
          refine px_aload_n dX12_findCan_106 rfl rfl ?_
          refine mx_getA (k := 31) (j := 18) dX12_findCan_107 gX12_70 (fun _ => rfl) ?_
          refine px_iload dX12_findCan_110 rfl ?_
          refine mx_iald (j := 18) (k := 31) _ dX12_findCan_112 rfl rfl (by omega) (by decide) ?_
          refine px_isub dX12_findCan_113 ?_
          refine px_iadd dX12_findCan_114 ?_
          refine px_istore_n3 dX12_findCan_115 (by decide) rfl ?_
          refine px_iinc_4 (v := 1) dX12_findCan_116 (by decide) (by decide) rfl ?_
          refine px_goto (tgt := 56) dX12_findCan_119 (by decide) ?_
          refine px_lw (ls' := [some (.ref m), some (.int (nI c)), some (.int (nI p)), some (.int (btS S c p (i + 1))), some (.int (nI (i + 1)))]) ?_ (ih (i + 1) (by omega) (by omega))
          (simp [LW, btS, nI_1, *]; done)
theorem CT.go {S T T' : MS} {n c p : Nat} (h : CT S n c p T) (hf : fr [30, 31] T T') : CT S n c p T' := by
  unfold CT
  rw [hf 32 (by decide), hf 33 (by decide), hf 34 (by decide)]
  exact h
set_option maxHeartbeats 4000000 in
set_option maxRecDepth 100000 in
theorem lp_cn1 (G : Gt) (m : Nat) (h0 : Ht) (S : MS) (n c : Nat) (hI : HI S n) (hc : c < 8) : ∀ (kk p : Nat) (T : MS), fr scc S T → MT S n c 216 T → CT S n c p T → p ≤ 7776 → 7777 ≤ p + kk → PX G (MPic G m h0) 6 Y12_findCan 22 [some (.ref m), some (.int (nI c)), some (.int (nI p)), none, none] [] T 0 0 (rv (fun S' => fr scc S S' ∧ CT S n c 7776 S')) := by
  intro kk
  induction kk with
  | zero => intro p T h1 h2 h3 h4 h5; omega
  | succ kk ih =>
    intro p T hf hM hC hi hk
    have h6 := hI.2.1
    refine px_iload_n dX12_findCan_22 rfl rfl ?_
    refine px_sipush (v := 7776) dX12_findCan_23 (by decide) ?_
    refine px_icmp_ge (tgt := 156) dX12_findCan_26 (by decide) (fun H26 => ?_) (fun H26 => ?_)
    · skip
      have e5 : p = 7776 := by have := ge_n (a := p) (b := 7776) (by omega) (by omega) H26; omega
      subst e5
      refine px_return dX12_findCan_156 rfl ?_
      exact ⟨hf, hC⟩
    · skip
      have l5 : p < 7776 := lt_n (a := p) (b := 7776) (by omega) (by omega) H26
      refine px_aload_n dX12_findCan_29 rfl rfl ?_
      refine px_iload_n dX12_findCan_30 rfl rfl ?_
      refine px_iload_n dX12_findCan_31 rfl rfl ?_
      refine mx_callI2 dX12_findCan_32 lX12_274 rfl (c_X12_isGood G m h0 S T n c p hI hc l5 hf hM) (by decide) (Nat.le_of_ble_eq_true rfl) (fun x32 S32 Q32 => ?_)
      obtain ⟨rfl, f32, g32⟩ := Q32
      have hf2 : fr scc S S32 := hf.tr (f32.mono (by decide))
      have hM2 : MT S n c 216 S32 := hM.go (f32 35 (by decide))
      have hC2 := hC.go f32
      obtain ⟨c1, c2, c3⟩ := hC2
      refine px_if_ne (tgt := 41) dX12_findCan_35 (by decide) (fun H35 => ?_) (fun H35 => ?_)
      · skip
        rw [gdI_0] at H35
        have gg : gd S n c p := Decidable.not_not.mp H35
        refine px_aload_n dX12_findCan_41 rfl rfl ?_
        refine px_dup dX12_findCan_42 rfl ?_
        refine mx_getI (k := 34) dX12_findCan_43 gX12_271 (fun _ => rfl) ?_
        refine px_iconst (v := 1) dX12_findCan_46 (by decide) ?_
        refine px_iadd dX12_findCan_47 ?_
        refine mx_putI (k := 34) dX12_findCan_48 gX12_271 (by decide) rfl rfl ?_
        refine px_iconst (v := 0) dX12_findCan_51 (by decide) ?_
        refine px_istore_n3 dX12_findCan_52 (by decide) rfl ?_
        refine px_iconst (v := 0) dX12_findCan_53 (by decide) ?_
        refine px_istore_4 dX12_findCan_54 (by decide) rfl ?_
        refine px_lw (ls' := [some (.ref m), some (.int (nI c)), some (.int (nI p)), some (.int (btS S c p 0)), some (.int (nI 0))]) (by simp [LW, btS, nI_0]) (lp_cn2 G m h0 S n c p _ hI hc (hf2.up (by decide)) (by intro h hh; rw [up2_ne (by decide)]; exact g32 gg h hh) ?_ (n + 1) 0 (by omega) (by omega))
        refine px_aload_n dX12_findCan_122 rfl rfl ?_
        refine mx_getI (k := 32) dX12_findCan_123 gX12_265 (fun _ => rfl) ?_
        refine px_if_lt (tgt := 140) dX12_findCan_126 (by decide) (fun H126 => ?_) (fun H126 => ?_)
        · skip
          rw [up2_ne (by decide), c1] at H126
          refine px_aload_n dX12_findCan_140 rfl rfl ?_
          refine px_iload_n dX12_findCan_141 rfl rfl ?_
          refine mx_putI (k := 32) dX12_findCan_142 gX12_265 (by decide) rfl rfl ?_
          refine px_aload_n dX12_findCan_145 rfl rfl ?_
          refine px_iload_n dX12_findCan_146 rfl rfl ?_
          refine mx_putI (k := 33) dX12_findCan_147 gX12_268 (by decide) rfl rfl ?_
          refine px_iinc_2 (v := 1) dX12_findCan_150 (by decide) (by decide) rfl ?_
          refine px_goto (tgt := 22) dX12_findCan_153 (by decide) ?_
          rw [nI_1]
          first
          | exact px_lw (by simp [LW]) (ih (p + 1) _ hf2 hM2 sk (by omega) (by omega))
          | skip
            refine px_lw (ls' := [some (.ref m), some (.int (nI c)), some (.int (nI (p + 1))), none, none]) (by simp [LW]) (ih (p + 1) _ (by first | exact ((hf2.up (by decide)).up (by decide)).up (by decide) | exact hf2.up (by decide)) (hM2.go (by simp [up2_ne])) ?_ (by omega) (by omega))
            unfold CT
            rw [cnF, if_pos gg]
            simp [up2_eq, up2_ne, pk_us, *]
        · skip
          rw [up2_ne (by decide), c1] at H126
          refine px_iload_n dX12_findCan_129 rfl rfl ?_
          refine px_aload_n dX12_findCan_130 rfl rfl ?_
          refine mx_getI (k := 33) dX12_findCan_131 gX12_268 (fun _ => rfl) ?_
          refine px_icmp_lt (tgt := 140) dX12_findCan_134 (by decide) (fun H134 => ?_) (fun H134 => ?_)
          · skip
            rw [up2_ne (by decide), c2] at H134
            refine px_aload_n dX12_findCan_140 rfl rfl ?_
            refine px_iload_n dX12_findCan_141 rfl rfl ?_
            refine mx_putI (k := 32) dX12_findCan_142 gX12_265 (by decide) rfl rfl ?_
            refine px_aload_n dX12_findCan_145 rfl rfl ?_
            refine px_iload_n dX12_findCan_146 rfl rfl ?_
            refine mx_putI (k := 33) dX12_findCan_147 gX12_268 (by decide) rfl rfl ?_
            refine px_iinc_2 (v := 1) dX12_findCan_150 (by decide) (by decide) rfl ?_
            refine px_goto (tgt := 22) dX12_findCan_153 (by decide) ?_
            rw [nI_1]
            first
            | exact px_lw (by simp [LW]) (ih (p + 1) _ hf2 hM2 sk (by omega) (by omega))
            | skip
              refine px_lw (ls' := [some (.ref m), some (.int (nI c)), some (.int (nI (p + 1))), none, none]) (by simp [LW]) (ih (p + 1) _ (by first | exact ((hf2.up (by decide)).up (by decide)).up (by decide) | exact hf2.up (by decide)) (hM2.go (by simp [up2_ne])) ?_ (by omega) (by omega))
              unfold CT
              rw [cnF, if_pos gg]
              simp [up2_eq, up2_ne, pk_us, *]
          · skip
            rw [up2_ne (by decide), c2] at H134
            refine px_goto (tgt := 150) dX12_findCan_137 (by decide) ?_
            refine px_iinc_2 (v := 1) dX12_findCan_150 (by decide) (by decide) rfl ?_
            refine px_goto (tgt := 22) dX12_findCan_153 (by decide) ?_
            rw [nI_1]
            first
            | exact px_lw (by simp [LW]) (ih (p + 1) _ hf2 hM2 sk (by omega) (by omega))
            | skip
              refine px_lw (ls' := [some (.ref m), some (.int (nI c)), some (.int (nI (p + 1))), none, none]) (by simp [LW]) (ih (p + 1) _ (by first | exact ((hf2.up (by decide)).up (by decide)).up (by decide) | exact hf2.up (by decide)) (hM2.go (by simp [up2_ne])) ?_ (by omega) (by omega))
              unfold CT
              rw [cnF, if_pos gg]
              simp [up2_eq, up2_ne, pk_us, *]
      · skip
        rw [gdI_0] at H35
        have sk : CT S n c (p + 1) S32 := by unfold CT; rw [cnF, if_neg H35]; exact ⟨c1, c2, c3⟩
        refine px_goto (tgt := 150) dX12_findCan_38 (by decide) ?_
        refine px_iinc_2 (v := 1) dX12_findCan_150 (by decide) (by decide) rfl ?_
        refine px_goto (tgt := 22) dX12_findCan_153 (by decide) ?_
        rw [nI_1]
        first
        | exact px_lw (by simp [LW]) (ih (p + 1) _ hf2 hM2 sk (by omega) (by omega))
        | skip
          refine px_lw (ls' := [some (.ref m), some (.int (nI c)), some (.int (nI (p + 1))), none, none]) (by simp [LW]) (ih (p + 1) _ (by first | exact ((hf2.up (by decide)).up (by decide)).up (by decide) | exact hf2.up (by decide)) (hM2.go (by simp [up2_ne])) ?_ (by omega) (by omega))
          unfold CT
          rw [cnF, if_pos gg]
          simp [up2_eq, up2_ne, pk_us, *]
set_option maxHeartbeats 4000000 in
set_option maxRecDepth 100000 in
theorem c_X12_findCan (G : Gt) (m : Nat) (h0 : Ht) (S : MS) (n c : Nat) (hI : HI S n) (hc : c < 8) : PC G (MPic G m h0) 6 Y12_findCan [.ref m, .int (nI c)] S 0 0 (rv (fun S' => fr scc S S' ∧ CT S n c 7776 S')) := by
  refine pc_of (ls := [some (.ref m), some (.int (nI c)), none, none, none]) (by decide +kernel) rfl (Nat.le_of_ble_eq_true rfl) ?_
  refine px_aload_n dX12_findCan_0 rfl rfl ?_
  refine px_iload_n dX12_findCan_1 rfl rfl ?_
  refine mx_callV1 dX12_findCan_2 lX12_262 rfl (c_X12_findMay G m h0 S n c hI hc) (by decide) (Nat.le_of_ble_eq_true rfl) (fun S2 Q2 => ?_)
  obtain ⟨f2, m2⟩ := Q2
  refine px_aload_n dX12_findCan_5 rfl rfl ?_
  refine px_iconst (v := (-1)) dX12_findCan_6 (by decide) ?_
  refine mx_putI (k := 32) dX12_findCan_7 gX12_265 (by decide) rfl rfl ?_
  refine px_aload_n dX12_findCan_10 rfl rfl ?_
  refine px_iconst (v := 0) dX12_findCan_11 (by decide) ?_
  refine mx_putI (k := 33) dX12_findCan_12 gX12_268 (by decide) rfl rfl ?_
  refine px_aload_n dX12_findCan_15 rfl rfl ?_
  refine px_iconst (v := 0) dX12_findCan_16 (by decide) ?_
  refine mx_putI (k := 34) dX12_findCan_17 gX12_271 (by decide) rfl rfl ?_
  refine px_iconst (v := 0) dX12_findCan_20 (by decide) ?_
  refine px_istore_n2 dX12_findCan_21 (by decide) rfl ?_
  refine px_lw (ls' := [some (.ref m), some (.int (nI c)), some (.int (nI 0)), none, none]) (by simp [LW, nI_0]) (lp_cn1 G m h0 S n c hI hc 7777 0 _ (((f2.up (by decide)).up (by decide)).up (by decide)) (m2.go (by simp [up2_ne])) ?_ (by omega) (by omega))
  unfold CT
  simp [cnF, up2_eq, up2_ne, pk_us]
def f_can (S : MS) (c w : Int32) : Int32 := if mCt S c = 0 ∨ mIn w 0 2 = 0 then -2 else
  if w = 2 then (cnF S (hN S) c.toNatClampNeg 7776).2.2 else if (cnF S (hN S) c.toNatClampNeg 7776).2.2 = 0 then -1 else if w = 0 then (cnF S (hN S) c.toNatClampNeg 7776).1 else (cnF S (hN S) c.toNatClampNeg 7776).2.1
set_option maxHeartbeats 4000000 in
set_option maxRecDepth 100000 in
theorem c_X12_can (G : Gt) (m : Nat) (h0 : Ht) (S : MS) (c w : Int32) (n : Nat) (hI : HI S n) (cn : Nat) (hC : S 6 0 = nI cn) (hcn : cn ≤ 8) : PC G (MPic G m h0) 7 Y12_can [.ref m, .int c, .int w] S 0 0 (ri (fun x S' => x = f_can S c w ∧ fr scr S S')) := by
  have eN := hN_eq hI.1 (by have := hI.2.1; omega)
  refine pc_of (ls := [some (.ref m), some (.int c), some (.int w)]) (by decide +kernel) rfl (Nat.le_of_ble_eq_true rfl) ?_
  refine px_aload_n dX12_can_0 rfl rfl ?_
  refine px_iload_n dX12_can_1 rfl rfl ?_
  refine mx_callI1 dX12_can_2 lX12_127 rfl (c_X12_isCoat G m h0 S _) (by decide) (Nat.le_of_ble_eq_true rfl) (fun x2 S2 Q2 => ?_)
  obtain ⟨rfl, e2⟩ := Q2
  obtain rfl := e2.symm
  refine px_if_eq (tgt := 17) dX12_can_5 (by decide) (fun H5 => ?_) (fun H5 => ?_)
  · skip
    refine px_bipush (v := (-2)) dX12_can_17 (by decide) ?_
    refine px_iretI dX12_can_19 rfl ?_
    refine ⟨?_, by first | exact fr.rf | exact frc f22⟩
    first | (simp [f_can, *]; done) | (simp [f_can, *]; intro e9; exact absurd e9 (by decide))
  · skip
    refine px_iload_n dX12_can_8 rfl rfl ?_
    refine px_iconst (v := 0) dX12_can_9 (by decide) ?_
    refine px_iconst (v := 2) dX12_can_10 (by decide) ?_
    refine px_pure3 dX12_can_11 lX12_109 (c_X12_in G _ _ _) (by decide) (Nat.le_of_ble_eq_true rfl) ?_
    refine px_if_ne (tgt := 20) dX12_can_14 (by decide) (fun H14 => ?_) (fun H14 => ?_)
    · skip
      obtain ⟨k, hk, ek, tk⟩ := ct_ix hC hcn H5
      subst ek
      refine px_aload_n dX12_can_20 rfl rfl ?_
      refine px_iload_n dX12_can_21 rfl rfl ?_
      refine mx_callV1 dX12_can_22 lX12_278 rfl (c_X12_findCan G m h0 S n k hI (by omega)) (by decide) (Nat.le_of_ble_eq_true rfl) (fun S22 Q22 => ?_)
      obtain ⟨f22, t1, t2, t3⟩ := Q22
      refine px_iload_n dX12_can_25 rfl rfl ?_
      refine px_iconst (v := 2) dX12_can_26 (by decide) ?_
      refine px_icmp_ne (tgt := 37) dX12_can_27 (by decide) (fun H27 => ?_) (fun H27 => ?_)
      · skip
        refine px_aload_n dX12_can_37 rfl rfl ?_
        refine mx_getI (k := 34) dX12_can_38 gX12_271 (fun _ => rfl) ?_
        refine px_if_ne (tgt := 48) dX12_can_41 (by decide) (fun H41 => ?_) (fun H41 => ?_)
        · skip
          rw [t3] at H41
          refine px_iload_n dX12_can_48 rfl rfl ?_
          refine px_if_ne (tgt := 59) dX12_can_49 (by decide) (fun H49 => ?_) (fun H49 => ?_)
          · skip
            refine px_aload_n dX12_can_59 rfl rfl ?_
            refine mx_getI (k := 33) dX12_can_60 gX12_268 (fun _ => rfl) ?_
            refine px_iretI dX12_can_63 rfl ?_
            refine ⟨?_, by first | exact fr.rf | exact frc f22⟩
            first | (simp [f_can, *]; done) | (simp [f_can, *]; intro e9; exact absurd e9 (by decide))
          · skip
            refine px_aload_n dX12_can_52 rfl rfl ?_
            refine mx_getI (k := 32) dX12_can_53 gX12_265 (fun _ => rfl) ?_
            refine px_goto (tgt := 63) dX12_can_56 (by decide) ?_
            refine px_iretI dX12_can_63 rfl ?_
            refine ⟨?_, by first | exact fr.rf | exact frc f22⟩
            first | (simp [f_can, *]; done) | (simp [f_can, *]; intro e9; exact absurd e9 (by decide))
        · skip
          rw [t3] at H41
          refine px_iconst (v := (-1)) dX12_can_44 (by decide) ?_
          refine px_goto (tgt := 63) dX12_can_45 (by decide) ?_
          refine px_iretI dX12_can_63 rfl ?_
          refine ⟨?_, by first | exact fr.rf | exact frc f22⟩
          first | (simp [f_can, *]; done) | (simp [f_can, *]; intro e9; exact absurd e9 (by decide))
      · skip
        refine px_aload_n dX12_can_30 rfl rfl ?_
        refine mx_getI (k := 34) dX12_can_31 gX12_271 (fun _ => rfl) ?_
        refine px_goto (tgt := 63) dX12_can_34 (by decide) ?_
        refine px_iretI dX12_can_63 rfl ?_
        refine ⟨?_, by first | exact fr.rf | exact frc f22⟩
        first | (simp [f_can, *]; done) | (simp [f_can, *]; intro e9; exact absurd e9 (by decide))
    · skip
      refine px_bipush (v := (-2)) dX12_can_17 (by decide) ?_
      refine px_iretI dX12_can_19 rfl ?_
      refine ⟨?_, by first | exact fr.rf | exact frc f22⟩
      first | (simp [f_can, *]; done) | (simp [f_can, *]; intro e9; exact absurd e9 (by decide))
