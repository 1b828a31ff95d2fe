/-! THE REFERENCE: the image, the sheets -/
theorem narB {x : Int32} (h : x = 0 ∨ x = 1) : vp_nar .boolean x = x := by rcases h with rfl | rfl <;> rfl
def sImg1 (S : MS) : MS := up2 (up2 (up2 (up2 S 39 0 1) 40 0 (S 1 0)) 41 0 (S 6 0)) 42 0 (S 17 0)
def sI6 (S : MS) (i : Nat) : MS := setA S 43 (fa_fill (S 2) (S 43) i)
def sI9 (S : MS) (i : Nat) : MS := setA S 44 (fa_fill (S 5) (S 44) i)
def sI8 (S : MS) (i : Nat) : MS := setA (setA (setA S 45 (fa_fill (S 11) (S 45) i)) 46 (fa_fill (S 12) (S 46) i)) 47 (fa_fill (S 13) (S 47) i)
def f_image (S : MS) : Int32 × MS := (mDoneS S (cN S), sI8 (sI9 (sI6 (sImg1 S) 6) 9) 8)
def sB6 (S : MS) (i : Nat) : MS := setA S 2 (fa_fill (S 43) (S 2) i)
def sB9 (S : MS) (i : Nat) : MS := setA S 5 (fa_fill (S 44) (S 5) i)
def sB8 (S : MS) (i : Nat) : MS := setA (setA (setA S 11 (fa_fill (S 45) (S 11) i)) 12 (fa_fill (S 46) (S 12) i)) 13 (fa_fill (S 47) (S 13) i)
def bState (S : MS) (kh kc : Nat) : MS := sB8 (sB9 (sB6 (up2 S 17 0 (S 42 0)) kh) 9) kc
theorem s3_0 {S : MS} {a b c : Nat} (hab : b ≠ a) (hac : c ≠ a) (hbc : c ≠ b) : setA (setA (setA S a (S a)) b (S b)) c (S c) = S := by rw [setA_id, setA_id, setA_id]
theorem s3_up {S : MS} {a b c i : Nat} {f g e : Nat → Int32} {x y z : Int32} (hab : b ≠ a) (hac : c ≠ a) (hbc : c ≠ b) : up2 (up2 (up2 (setA (setA (setA S a f) b g) c e) a i x) b i y) c i z = setA (setA (setA S a (upd f i x)) b (upd g i y)) c (upd e i z) := by
  funext q
  by_cases h1 : q = c
  · subst h1
    rw [up2_eq, up2_ne hbc, up2_ne hac, setA_eq, setA_eq]
  · rw [up2_ne h1, setA_ne h1]
    by_cases h2 : q = b
    · subst h2
      rw [up2_eq, up2_ne hab, setA_ne h1, setA_eq, setA_eq]
    · rw [up2_ne h2, setA_ne h2]
      by_cases h3 : q = a
      · subst h3
        rw [up2_eq, setA_ne h1, setA_ne h2, setA_eq, setA_eq]
      · rw [up2_ne h3, setA_ne h1, setA_ne h2, setA_ne h3, setA_ne h3]
set_option maxHeartbeats 4000000 in
set_option maxRecDepth 100000 in
theorem lp_img6 (G : Gt) (m : Nat) (h0 : Ht) (S : MS)   (Post : Option Value → MS → Prop) (K : PX G (MPic G m h0) 2 Y12_image 55 [some (.ref m), some (.int (nI 6))] [] (sI6 S 6) 0 0 Post) : ∀ (kk i : Nat), i ≤ 6 → 6 + 1 ≤ i + kk → PX G (MPic G m h0) 2 Y12_image 31 [some (.ref m), some (.int (nI i))] [] (sI6 S i) 0 0 Post := by
  intro kk
  induction kk with
  | zero => intro i h1 h2; omega
  | succ kk ih =>
    intro i h1 h2
    refine px_iload_n dX12_image_31 rfl rfl ?_
    refine px_bipush (v := 6) dX12_image_32 (by decide) ?_
    refine px_icmp_ge (tgt := 55) dX12_image_34 (by decide) (fun H34 => ?_) (fun H34 => ?_)
    · skip
      skip
      have eN : i = 6 := by have := ge_n (a := i) (b := 6) (by omega) (by omega) H34; omega
      rw [eN]
      exact K
    · skip
      skip
      have lN : i < 6 := lt_n (a := i) (b := 6) (by omega) (by omega) H34
      refine px_aload_n dX12_image_37 rfl rfl ?_
      refine mx_getA (k := 43) (j := 20) dX12_image_38 gX12_76 (fun _ => rfl) ?_
      refine px_iload_n dX12_image_41 rfl rfl ?_
      refine px_aload_n dX12_image_42 rfl rfl ?_
      refine mx_getA (k := 2) (j := 0) dX12_image_43 gX12_7 (fun _ => rfl) ?_
      refine px_iload_n dX12_image_46 rfl rfl ?_
      refine mx_iald (j := 0) (k := 2) _ dX12_image_47 rfl rfl (by omega) (by decide) ?_
      refine mx_iast (j := 20) (k := 43) _ dX12_image_48 rfl rfl (by omega) (by decide) ?_
      refine px_iinc_1 (v := 1) dX12_image_49 (by decide) (by decide) rfl ?_
      refine px_goto (tgt := 31) dX12_image_52 (by decide) ?_
      refine px_lw (ls' := [some (.ref m), some (.int (nI (i + 1)))]) ?_ (px_S (S' := sI6 S (i + 1)) ?_ (ih (i + 1) (by omega) (by omega)))
      · (simp [LW, LW, nI_1, *]; done)
      · exact Eq.trans setA_up (congrArg _ (fa_fill_succ _ _ _))
theorem lp_img6_0 (G : Gt) (m : Nat) (h0 : Ht) (S : MS)   (Post : Option Value → MS → Prop) (K : PX G (MPic G m h0) 2 Y12_image 55 [some (.ref m), some (.int (nI 6))] [] (sI6 S 6) 0 0 Post) : PX G (MPic G m h0) 2 Y12_image 31 [some (.ref m), some (.int (nI 0))] [] S 0 0 Post :=
  px_S (by unfold sI6; rw [fill0, setA_id]) (lp_img6 G m h0 S  Post K (6 + 1) 0 (by omega) (by omega))
set_option maxHeartbeats 4000000 in
set_option maxRecDepth 100000 in
theorem lp_img9 (G : Gt) (m : Nat) (h0 : Ht) (S : MS)   (Post : Option Value → MS → Prop) (K : PX G (MPic G m h0) 2 Y12_image 81 [some (.ref m), some (.int (nI 9))] [] (sI9 S 9) 0 0 Post) : ∀ (kk i : Nat), i ≤ 9 → 9 + 1 ≤ i + kk → PX G (MPic G m h0) 2 Y12_image 57 [some (.ref m), some (.int (nI i))] [] (sI9 S i) 0 0 Post := by
  intro kk
  induction kk with
  | zero => intro i h1 h2; omega
  | succ kk ih =>
    intro i h1 h2
    refine px_iload_n dX12_image_57 rfl rfl ?_
    refine px_bipush (v := 9) dX12_image_58 (by decide) ?_
    refine px_icmp_ge (tgt := 81) dX12_image_60 (by decide) (fun H60 => ?_) (fun H60 => ?_)
    · skip
      skip
      have eN : i = 9 := by have := ge_n (a := i) (b := 9) (by omega) (by omega) H60; omega
      rw [eN]
      exact K
    · skip
      skip
      have lN : i < 9 := lt_n (a := i) (b := 9) (by omega) (by omega) H60
      refine px_aload_n dX12_image_63 rfl rfl ?_
      refine mx_getA (k := 44) (j := 21) dX12_image_64 gX12_79 (fun _ => rfl) ?_
      refine px_iload_n dX12_image_67 rfl rfl ?_
      refine px_aload_n dX12_image_68 rfl rfl ?_
      refine mx_getA (k := 5) (j := 3) dX12_image_69 gX12_19 (fun _ => rfl) ?_
      refine px_iload_n dX12_image_72 rfl rfl ?_
      refine mx_iald (j := 3) (k := 5) _ dX12_image_73 rfl rfl (by omega) (by decide) ?_
      refine mx_iast (j := 21) (k := 44) _ dX12_image_74 rfl rfl (by omega) (by decide) ?_
      refine px_iinc_1 (v := 1) dX12_image_75 (by decide) (by decide) rfl ?_
      refine px_goto (tgt := 57) dX12_image_78 (by decide) ?_
      refine px_lw (ls' := [some (.ref m), some (.int (nI (i + 1)))]) ?_ (px_S (S' := sI9 S (i + 1)) ?_ (ih (i + 1) (by omega) (by omega)))
      · (simp [LW, LW, nI_1, *]; done)
      · exact Eq.trans setA_up (congrArg _ (fa_fill_succ _ _ _))
theorem lp_img9_0 (G : Gt) (m : Nat) (h0 : Ht) (S : MS)   (Post : Option Value → MS → Prop) (K : PX G (MPic G m h0) 2 Y12_image 81 [some (.ref m), some (.int (nI 9))] [] (sI9 S 9) 0 0 Post) : PX G (MPic G m h0) 2 Y12_image 57 [some (.ref m), some (.int (nI 0))] [] S 0 0 Post :=
  px_S (by unfold sI9; rw [fill0, setA_id]) (lp_img9 G m h0 S  Post K (9 + 1) 0 (by omega) (by omega))
set_option maxHeartbeats 4000000 in
set_option maxRecDepth 100000 in
theorem lp_img8 (G : Gt) (m : Nat) (h0 : Ht) (S : MS)  (hD : ∀ i, i < 8 → S 11 i = 0 ∨ S 11 i = 1) (Post : Option Value → MS → Prop) (K : PX G (MPic G m h0) 2 Y12_image 131 [some (.ref m), some (.int (nI 8))] [] (sI8 S 8) 0 0 Post) : ∀ (kk i : Nat), i ≤ 8 → 8 + 1 ≤ i + kk → PX G (MPic G m h0) 2 Y12_image 83 [some (.ref m), some (.int (nI i))] [] (sI8 S i) 0 0 Post := by
  intro kk
  induction kk with
  | zero => intro i h1 h2; omega
  | succ kk ih =>
    intro i h1 h2
    refine px_iload_n dX12_image_83 rfl rfl ?_
    refine px_bipush (v := 8) dX12_image_84 (by decide) ?_
    refine px_icmp_ge (tgt := 131) dX12_image_86 (by decide) (fun H86 => ?_) (fun H86 => ?_)
    · skip
      skip
      have eN : i = 8 := by have := ge_n (a := i) (b := 8) (by omega) (by omega) H86; omega
      rw [eN]
      exact K
    · skip
      skip
      have lN : i < 8 := lt_n (a := i) (b := 8) (by omega) (by omega) H86
      refine px_aload_n dX12_image_89 rfl rfl ?_
      refine mx_getA (k := 45) (j := 22) dX12_image_90 gX12_82 (fun _ => rfl) ?_
      refine px_iload_n dX12_image_93 rfl rfl ?_
      refine px_aload_n dX12_image_94 rfl rfl ?_
      refine mx_getA (k := 11) (j := 8) dX12_image_95 gX12_34 (fun _ => rfl) ?_
      refine px_iload_n dX12_image_98 rfl rfl ?_
      refine mx_zald (j := 8) (k := 11) _ dX12_image_99 rfl rfl (by omega) (by decide) ?_
      refine mx_zast (j := 22) (k := 45) _ dX12_image_100 rfl rfl (by omega) (by decide) ?_
      refine px_aload_n dX12_image_101 rfl rfl ?_
      refine mx_getA (k := 46) (j := 23) dX12_image_102 gX12_85 (fun _ => rfl) ?_
      refine px_iload_n dX12_image_105 rfl rfl ?_
      refine px_aload_n dX12_image_106 rfl rfl ?_
      refine mx_getA (k := 12) (j := 9) dX12_image_107 gX12_38 (fun _ => rfl) ?_
      refine px_iload_n dX12_image_110 rfl rfl ?_
      refine mx_iald (j := 9) (k := 12) _ dX12_image_111 rfl rfl (by omega) (by decide) ?_
      refine mx_iast (j := 23) (k := 46) _ dX12_image_112 rfl rfl (by omega) (by decide) ?_
      refine px_aload_n dX12_image_113 rfl rfl ?_
      refine mx_getA (k := 47) (j := 24) dX12_image_114 gX12_88 (fun _ => rfl) ?_
      refine px_iload_n dX12_image_117 rfl rfl ?_
      refine px_aload_n dX12_image_118 rfl rfl ?_
      refine mx_getA (k := 13) (j := 10) dX12_image_119 gX12_41 (fun _ => rfl) ?_
      refine px_iload_n dX12_image_122 rfl rfl ?_
      refine mx_iald (j := 10) (k := 13) _ dX12_image_123 rfl rfl (by omega) (by decide) ?_
      refine mx_iast (j := 24) (k := 47) _ dX12_image_124 rfl rfl (by omega) (by decide) ?_
      refine px_iinc_1 (v := 1) dX12_image_125 (by decide) (by decide) rfl ?_
      refine px_goto (tgt := 83) dX12_image_128 (by decide) ?_
      refine px_lw (ls' := [some (.ref m), some (.int (nI (i + 1)))]) ?_ (px_S (S' := sI8 S (i + 1)) ?_ (ih (i + 1) (by omega) (by omega)))
      · (simp [LW, LW, nI_1, *]; done)
      · rw [show (sI8 S i) 11 i = S 11 i from rfl, narB (hD i lN)]
        refine Eq.trans (s3_up (by decide) (by decide) (by decide)) ?_
        unfold sI8
        rw [← fa_fill_succ, ← fa_fill_succ, ← fa_fill_succ]
        rfl
theorem lp_img8_0 (G : Gt) (m : Nat) (h0 : Ht) (S : MS)  (hD : ∀ i, i < 8 → S 11 i = 0 ∨ S 11 i = 1) (Post : Option Value → MS → Prop) (K : PX G (MPic G m h0) 2 Y12_image 131 [some (.ref m), some (.int (nI 8))] [] (sI8 S 8) 0 0 Post) : PX G (MPic G m h0) 2 Y12_image 83 [some (.ref m), some (.int (nI 0))] [] S 0 0 Post :=
  px_S (by unfold sI8; rw [fill0, fill0, fill0, s3_0 (by decide) (by decide) (by decide)]) (lp_img8 G m h0 S hD Post K (8 + 1) 0 (by omega) (by omega))
set_option maxHeartbeats 4000000 in
set_option maxRecDepth 100000 in
theorem lp_bk6 (G : Gt) (m : Nat) (h0 : Ht) (S : MS) (kh : Nat) (hk : S 40 0 = nI kh) (hk6 : kh ≤ 6) (Post : Option Value → MS → Prop) (K : PX G (MPic G m h0) 2 Y12_back 46 [some (.ref m), some (.int (nI kh))] [] (sB6 S kh) 0 0 Post) : ∀ (kk i : Nat), i ≤ kh → kh + 1 ≤ i + kk → PX G (MPic G m h0) 2 Y12_back 20 [some (.ref m), some (.int (nI i))] [] (sB6 S i) 0 0 Post := by
  intro kk
  induction kk with
  | zero => intro i h1 h2; omega
  | succ kk ih =>
    intro i h1 h2
    refine px_iload_n dX12_back_20 rfl rfl ?_
    refine px_aload_n dX12_back_21 rfl rfl ?_
    refine mx_getI (k := 40) dX12_back_22 gX12_311 (fun _ => rfl) ?_
    refine px_icmp_ge (tgt := 46) dX12_back_25 (by decide) (fun H25 => ?_) (fun H25 => ?_)
    · skip
      rw [show (sB6 S i) 40 0 = nI kh from hk] at H25
      have eN : i = kh := by have := ge_n (a := i) (b := kh) (by omega) (by omega) H25; omega
      rw [eN]
      exact K
    · skip
      rw [show (sB6 S i) 40 0 = nI kh from hk] at H25
      have lN : i < kh := lt_n (a := i) (b := kh) (by omega) (by omega) H25
      refine px_aload_n dX12_back_28 rfl rfl ?_
      refine mx_getA (k := 2) (j := 0) dX12_back_29 gX12_7 (fun _ => rfl) ?_
      refine px_iload_n dX12_back_32 rfl rfl ?_
      refine px_aload_n dX12_back_33 rfl rfl ?_
      refine mx_getA (k := 43) (j := 20) dX12_back_34 gX12_76 (fun _ => rfl) ?_
      refine px_iload_n dX12_back_37 rfl rfl ?_
      refine mx_iald (j := 20) (k := 43) _ dX12_back_38 rfl rfl (by omega) (by decide) ?_
      refine mx_iast (j := 0) (k := 2) _ dX12_back_39 rfl rfl (by omega) (by decide) ?_
      refine px_iinc_1 (v := 1) dX12_back_40 (by decide) (by decide) rfl ?_
      refine px_goto (tgt := 20) dX12_back_43 (by decide) ?_
      refine px_lw (ls' := [some (.ref m), some (.int (nI (i + 1)))]) ?_ (px_S (S' := sB6 S (i + 1)) ?_ (ih (i + 1) (by omega) (by omega)))
      · (simp [LW, LW, nI_1, *]; done)
      · exact Eq.trans setA_up (congrArg _ (fa_fill_succ _ _ _))
theorem lp_bk6_0 (G : Gt) (m : Nat) (h0 : Ht) (S : MS) (kh : Nat) (hk : S 40 0 = nI kh) (hk6 : kh ≤ 6) (Post : Option Value → MS → Prop) (K : PX G (MPic G m h0) 2 Y12_back 46 [some (.ref m), some (.int (nI kh))] [] (sB6 S kh) 0 0 Post) : PX G (MPic G m h0) 2 Y12_back 20 [some (.ref m), some (.int (nI 0))] [] S 0 0 Post :=
  px_S (by unfold sB6; rw [fill0, setA_id]) (lp_bk6 G m h0 S kh hk hk6 Post K (kh + 1) 0 (by omega) (by omega))
set_option maxHeartbeats 4000000 in
set_option maxRecDepth 100000 in
theorem lp_bk9 (G : Gt) (m : Nat) (h0 : Ht) (S : MS)   (Post : Option Value → MS → Prop) (K : PX G (MPic G m h0) 2 Y12_back 72 [some (.ref m), some (.int (nI 9))] [] (sB9 S 9) 0 0 Post) : ∀ (kk i : Nat), i ≤ 9 → 9 + 1 ≤ i + kk → PX G (MPic G m h0) 2 Y12_back 48 [some (.ref m), some (.int (nI i))] [] (sB9 S i) 0 0 Post := by
  intro kk
  induction kk with
  | zero => intro i h1 h2; omega
  | succ kk ih =>
    intro i h1 h2
    refine px_iload_n dX12_back_48 rfl rfl ?_
    refine px_bipush (v := 9) dX12_back_49 (by decide) ?_
    refine px_icmp_ge (tgt := 72) dX12_back_51 (by decide) (fun H51 => ?_) (fun H51 => ?_)
    · skip
      skip
      have eN : i = 9 := by have := ge_n (a := i) (b := 9) (by omega) (by omega) H51; omega
      rw [eN]
      exact K
    · skip
      skip
      have lN : i < 9 := lt_n (a := i) (b := 9) (by omega) (by omega) H51
      refine px_aload_n dX12_back_54 rfl rfl ?_
      refine mx_getA (k := 5) (j := 3) dX12_back_55 gX12_19 (fun _ => rfl) ?_
      refine px_iload_n dX12_back_58 rfl rfl ?_
      refine px_aload_n dX12_back_59 rfl rfl ?_
      refine mx_getA (k := 44) (j := 21) dX12_back_60 gX12_79 (fun _ => rfl) ?_
      refine px_iload_n dX12_back_63 rfl rfl ?_
      refine mx_iald (j := 21) (k := 44) _ dX12_back_64 rfl rfl (by omega) (by decide) ?_
      refine mx_iast (j := 3) (k := 5) _ dX12_back_65 rfl rfl (by omega) (by decide) ?_
      refine px_iinc_1 (v := 1) dX12_back_66 (by decide) (by decide) rfl ?_
      refine px_goto (tgt := 48) dX12_back_69 (by decide) ?_
      refine px_lw (ls' := [some (.ref m), some (.int (nI (i + 1)))]) ?_ (px_S (S' := sB9 S (i + 1)) ?_ (ih (i + 1) (by omega) (by omega)))
      · (simp [LW, LW, nI_1, *]; done)
      · exact Eq.trans setA_up (congrArg _ (fa_fill_succ _ _ _))
theorem lp_bk9_0 (G : Gt) (m : Nat) (h0 : Ht) (S : MS)   (Post : Option Value → MS → Prop) (K : PX G (MPic G m h0) 2 Y12_back 72 [some (.ref m), some (.int (nI 9))] [] (sB9 S 9) 0 0 Post) : PX G (MPic G m h0) 2 Y12_back 48 [some (.ref m), some (.int (nI 0))] [] S 0 0 Post :=
  px_S (by unfold sB9; rw [fill0, setA_id]) (lp_bk9 G m h0 S  Post K (9 + 1) 0 (by omega) (by omega))
set_option maxHeartbeats 4000000 in
set_option maxRecDepth 100000 in
theorem lp_bk8 (G : Gt) (m : Nat) (h0 : Ht) (S : MS) (kc : Nat) (hk : S 41 0 = nI kc) (hk8 : kc ≤ 8) (hD : ∀ i, i < 8 → S 45 i = 0 ∨ S 45 i = 1) (Post : Option Value → MS → Prop) (K : PX G (MPic G m h0) 2 Y12_back 124 [some (.ref m), some (.int (nI kc))] [] (sB8 S kc) 0 0 Post) : ∀ (kk i : Nat), i ≤ kc → kc + 1 ≤ i + kk → PX G (MPic G m h0) 2 Y12_back 74 [some (.ref m), some (.int (nI i))] [] (sB8 S i) 0 0 Post := by
  intro kk
  induction kk with
  | zero => intro i h1 h2; omega
  | succ kk ih =>
    intro i h1 h2
    refine px_iload_n dX12_back_74 rfl rfl ?_
    refine px_aload_n dX12_back_75 rfl rfl ?_
    refine mx_getI (k := 41) dX12_back_76 gX12_314 (fun _ => rfl) ?_
    refine px_icmp_ge (tgt := 124) dX12_back_79 (by decide) (fun H79 => ?_) (fun H79 => ?_)
    · skip
      rw [show (sB8 S i) 41 0 = nI kc from hk] at H79
      have eN : i = kc := by have := ge_n (a := i) (b := kc) (by omega) (by omega) H79; omega
      rw [eN]
      exact K
    · skip
      rw [show (sB8 S i) 41 0 = nI kc from hk] at H79
      have lN : i < kc := lt_n (a := i) (b := kc) (by omega) (by omega) H79
      refine px_aload_n dX12_back_82 rfl rfl ?_
      refine mx_getA (k := 11) (j := 8) dX12_back_83 gX12_34 (fun _ => rfl) ?_
      refine px_iload_n dX12_back_86 rfl rfl ?_
      refine px_aload_n dX12_back_87 rfl rfl ?_
      refine mx_getA (k := 45) (j := 22) dX12_back_88 gX12_82 (fun _ => rfl) ?_
      refine px_iload_n dX12_back_91 rfl rfl ?_
      refine mx_zald (j := 22) (k := 45) _ dX12_back_92 rfl rfl (by omega) (by decide) ?_
      refine mx_zast (j := 8) (k := 11) _ dX12_back_93 rfl rfl (by omega) (by decide) ?_
      refine px_aload_n dX12_back_94 rfl rfl ?_
      refine mx_getA (k := 12) (j := 9) dX12_back_95 gX12_38 (fun _ => rfl) ?_
      refine px_iload_n dX12_back_98 rfl rfl ?_
      refine px_aload_n dX12_back_99 rfl rfl ?_
      refine mx_getA (k := 46) (j := 23) dX12_back_100 gX12_85 (fun _ => rfl) ?_
      refine px_iload_n dX12_back_103 rfl rfl ?_
      refine mx_iald (j := 23) (k := 46) _ dX12_back_104 rfl rfl (by omega) (by decide) ?_
      refine mx_iast (j := 9) (k := 12) _ dX12_back_105 rfl rfl (by omega) (by decide) ?_
      refine px_aload_n dX12_back_106 rfl rfl ?_
      refine mx_getA (k := 13) (j := 10) dX12_back_107 gX12_41 (fun _ => rfl) ?_
      refine px_iload_n dX12_back_110 rfl rfl ?_
      refine px_aload_n dX12_back_111 rfl rfl ?_
      refine mx_getA (k := 47) (j := 24) dX12_back_112 gX12_88 (fun _ => rfl) ?_
      refine px_iload_n dX12_back_115 rfl rfl ?_
      refine mx_iald (j := 24) (k := 47) _ dX12_back_116 rfl rfl (by omega) (by decide) ?_
      refine mx_iast (j := 10) (k := 13) _ dX12_back_117 rfl rfl (by omega) (by decide) ?_
      refine px_iinc_1 (v := 1) dX12_back_118 (by decide) (by decide) rfl ?_
      refine px_goto (tgt := 74) dX12_back_121 (by decide) ?_
      refine px_lw (ls' := [some (.ref m), some (.int (nI (i + 1)))]) ?_ (px_S (S' := sB8 S (i + 1)) ?_ (ih (i + 1) (by omega) (by omega)))
      · (simp [LW, LW, nI_1, *]; done)
      · rw [show (sB8 S i) 45 i = S 45 i from rfl, narB (hD i (by omega))]
        refine Eq.trans (s3_up (by decide) (by decide) (by decide)) ?_
        unfold sB8
        rw [← fa_fill_succ, ← fa_fill_succ, ← fa_fill_succ]
        rfl
theorem lp_bk8_0 (G : Gt) (m : Nat) (h0 : Ht) (S : MS) (kc : Nat) (hk : S 41 0 = nI kc) (hk8 : kc ≤ 8) (hD : ∀ i, i < 8 → S 45 i = 0 ∨ S 45 i = 1) (Post : Option Value → MS → Prop) (K : PX G (MPic G m h0) 2 Y12_back 124 [some (.ref m), some (.int (nI kc))] [] (sB8 S kc) 0 0 Post) : PX G (MPic G m h0) 2 Y12_back 74 [some (.ref m), some (.int (nI 0))] [] S 0 0 Post :=
  px_S (by unfold sB8; rw [fill0, fill0, fill0, s3_0 (by decide) (by decide) (by decide)]) (lp_bk8 G m h0 S kc hk hk8 hD Post K (kc + 1) 0 (by omega) (by omega))
theorem mDoneS_congr {S S' : MS} (h : ∀ i, S' 11 i = S 11 i) : ∀ n, mDoneS S' n = mDoneS S n
  | 0 => rfl
  | n + 1 => by rw [mDoneS, mDoneS, mDoneS_congr h n, h n]
set_option maxHeartbeats 4000000 in
set_option maxRecDepth 100000 in
theorem c_X12_image (G : Gt) (m : Nat) (h0 : Ht) (S : MS)  (n : Nat) (hC : S 6 0 = nI n) (hn : n ≤ 8) (hD : ∀ i, i < 8 → S 11 i = 0 ∨ S 11 i = 1) : PC G (MPic G m h0) 2 Y12_image [.ref m] S 0 0 (ri (fun x S' => x = (f_image S).1 ∧ S' = (f_image S).2)) := by
  refine pc_of (ls := [some (.ref m), none]) (by decide +kernel) rfl (Nat.le_of_ble_eq_true rfl) ?_
  refine px_aload_n dX12_image_0 rfl rfl ?_
  refine px_iconst (v := 1) dX12_image_1 (by decide) ?_
  refine mx_putI (k := 39) dX12_image_2 gX12_307 (by decide) rfl rfl ?_
  refine px_aload_n dX12_image_5 rfl rfl ?_
  refine px_aload_n dX12_image_6 rfl rfl ?_
  refine mx_getI (k := 1) dX12_image_7 gX12_106 (fun _ => rfl) ?_
  refine mx_putI (k := 40) dX12_image_10 gX12_311 (by decide) rfl rfl ?_
  refine px_aload_n dX12_image_13 rfl rfl ?_
  refine px_aload_n dX12_image_14 rfl rfl ?_
  refine mx_getI (k := 6) dX12_image_15 gX12_113 (fun _ => rfl) ?_
  refine mx_putI (k := 41) dX12_image_18 gX12_314 (by decide) rfl rfl ?_
  refine px_aload_n dX12_image_21 rfl rfl ?_
  refine px_aload_n dX12_image_22 rfl rfl ?_
  refine mx_getI (k := 17) dX12_image_23 gX12_229 (fun _ => rfl) ?_
  refine mx_putI (k := 42) dX12_image_26 gX12_317 (by decide) rfl rfl ?_
  refine px_iconst (v := 0) dX12_image_29 (by decide) ?_
  refine px_istore_n1 dX12_image_30 (by decide) rfl ?_
  refine lp_img6_0 G m h0 _ _ ?_
  refine px_iconst (v := 0) dX12_image_55 (by decide) ?_
  refine px_istore_n1 dX12_image_56 (by decide) rfl ?_
  refine lp_img9_0 G m h0 _ _ ?_
  refine px_iconst (v := 0) dX12_image_81 (by decide) ?_
  refine px_istore_n1 dX12_image_82 (by decide) rfl ?_
  refine lp_img8_0 G m h0 _ (by exact hD) _ ?_
  refine px_aload_n dX12_image_131 rfl rfl ?_
  refine mx_callI0 dX12_image_132 lX12_320 rfl (c_X12_doneMany G m h0 _ n (by exact hC) hn) (by decide) (Nat.le_of_ble_eq_true rfl) (fun x132 S132 Q132 => ?_)
  obtain ⟨rfl, e132⟩ := Q132
  obtain rfl := e132.symm
  refine px_iretI dX12_image_135 rfl ?_
  exact ⟨by rw [f_image, cN_eq hC (by omega)]; exact mDoneS_congr (S := S) (fun i => by rfl) n, rfl⟩
def kHN (S : MS) : Nat := (S 40 0).toNatClampNeg
def kCN (S : MS) : Nat := (S 41 0).toNatClampNeg
def f_back (S : MS) : Int32 × MS := if S 39 0 = 0 then (-3, S) else (mDoneS (bState S (kHN S) (kCN S)) (cN S), bState S (kHN S) (kCN S))
set_option maxHeartbeats 4000000 in
set_option maxRecDepth 100000 in
theorem c_X12_back (G : Gt) (m : Nat) (h0 : Ht) (S : MS)  (n : Nat) (hC : S 6 0 = nI n) (hn : n ≤ 8) (kh kc : Nat) (hk : S 40 0 = nI kh) (hk6 : kh ≤ 6) (hc : S 41 0 = nI kc) (hc8 : kc ≤ 8) (hD : ∀ i, i < 8 → S 45 i = 0 ∨ S 45 i = 1) : PC G (MPic G m h0) 2 Y12_back [.ref m] S 0 0 (ri (fun x S' => x = (f_back S).1 ∧ S' = (f_back S).2)) := by
  have e1 : kHN S = kh := by unfold kHN; rw [hk, nI_clamp (by omega)]
  have e2 : kCN S = kc := by unfold kCN; rw [hc, nI_clamp (by omega)]
  have e3 := cN_eq hC (by omega)
  refine pc_of (ls := [some (.ref m), none]) (by decide +kernel) rfl (Nat.le_of_ble_eq_true rfl) ?_
  refine px_aload_n dX12_back_0 rfl rfl ?_
  refine mx_getI (k := 39) dX12_back_1 gX12_307 (fun _ => rfl) ?_
  refine px_if_ne (tgt := 10) dX12_back_4 (by decide) (fun H4 => ?_) (fun H4 => ?_)
  · skip
    refine px_aload_n dX12_back_10 rfl rfl ?_
    refine px_aload_n dX12_back_11 rfl rfl ?_
    refine mx_getI (k := 42) dX12_back_12 gX12_317 (fun _ => rfl) ?_
    refine mx_putI (k := 17) dX12_back_15 gX12_229 (by decide) rfl rfl ?_
    refine px_iconst (v := 0) dX12_back_18 (by decide) ?_
    refine px_istore_n1 dX12_back_19 (by decide) rfl ?_
    refine lp_bk6_0 G m h0 _ kh (by exact hk) hk6 _ ?_
    refine px_iconst (v := 0) dX12_back_46 (by decide) ?_
    refine px_istore_n1 dX12_back_47 (by decide) rfl ?_
    refine lp_bk9_0 G m h0 _ _ ?_
    refine px_iconst (v := 0) dX12_back_72 (by decide) ?_
    refine px_istore_n1 dX12_back_73 (by decide) rfl ?_
    refine lp_bk8_0 G m h0 _ kc (by exact hc) hc8 (by exact hD) _ ?_
    refine px_aload_n dX12_back_124 rfl rfl ?_
    refine mx_callI0 dX12_back_125 lX12_320 rfl (c_X12_doneMany G m h0 _ n (by exact hC) hn) (by decide) (Nat.le_of_ble_eq_true rfl) (fun x125 S125 Q125 => ?_)
    obtain ⟨rfl, e125⟩ := Q125
    obtain rfl := e125.symm
    refine px_iretI dX12_back_128 rfl ?_
    exact ⟨by rw [f_back, if_neg H4, e1, e2, e3]; rfl, by rw [f_back, if_neg H4, e1, e2]; rfl⟩
  · skip
    refine px_bipush (v := (-3)) dX12_back_7 (by decide) ?_
    refine px_iretI dX12_back_9 rfl ?_
    exact ⟨by simp [f_back, *], Eq.symm (by simp [f_back, *])⟩
theorem LR.of_has2 {nL i : Nat} {ls : List (Option Value)} {jl : Array Slot} {v : Value} (hc : ∀ j o, j + 1 = i → ls[j]? = some o → nc1 o = true) (h : lv_has jl nL ((i, v) :: (lrPairs ls).filter (fun q => !(q.1 == i) && (!(q.1 == i + 1) && !(q.1 + 1 == i && q.2.category == 2))))) : LR nL ((ls.set i (some v)).set (i + 1) none) jl := by
  refine ⟨h.1, h.2.1, fun j w hj => ?_⟩
  by_cases hj1 : j = i + 1
  · subst hj1
    have hlt := (List.getElem?_eq_some_iff.mp hj).1
    rw [List.length_set] at hlt
    rw [List.getElem?_set_self hlt] at hj
    cases hj
  · rw [List.getElem?_set_ne (fun e => hj1 e.symm)] at hj
    by_cases hji : j = i
    · subst hji
      have hlt : j < ls.length := by
        have := (List.getElem?_eq_some_iff.mp hj).1
        rwa [List.length_set] at this
      rw [List.getElem?_set_self hlt] at hj
      cases hj
      exact h.2.2 (j, v) List.mem_cons_self
    · rw [List.getElem?_set_ne (fun e => hji e.symm)] at hj
      refine h.2.2 (j, w) (List.mem_cons_of_mem _ (List.mem_filter.mpr ⟨lrPairs_mem.mpr hj, ?_⟩))
      by_cases h1 : j + 1 = i
      · have h2 := hc j _ h1 hj
        simp only [nc1, beq_iff_eq] at h2
        simp [hji, hj1, h1, h2]
      · simp [hji, hj1, h1]
theorem px_lstore_7 {σ : Type} {G : Gt} {Pic : σ → Ht → Prop} {d : Nat} {Y : Yt} {pc : Nat} {ls : List (Option Value)} {st : List Value} {S : σ} {mc ms : Nat} {Post : Option Value → σ → Prop} {a0 a1 a2 a3 a4 a5 a6 z z2 : Option Value} {x : Int64} (hd : decode Y.2.1 pc = .ok (.lstore 7, 2)) (hn : 8 < Y.2.2.1) (hq : nc1 a6 = true) (kk : PX G Pic d Y (pc + 2) (a0 :: a1 :: a2 :: a3 :: a4 :: a5 :: a6 :: some (.long x) :: none :: ls) st S mc ms Post) : PX G Pic d Y pc (a0 :: a1 :: a2 :: a3 :: a4 :: a5 :: a6 :: z :: z2 :: ls) (.long x :: st) S mc ms Post :=
  fun h hp p e R s m args below meth c Q H locs cells slots jl ac hh hS hl hc hs kr => lv_lstore ac.1 ac.2.1 hd hl.has hn rfl (fun jl hl' => kk h hp p e R s m args below meth c Q H locs cells slots jl ac hh hS (LR.of_has2 (nc_at (i := 6) (a := a6) rfl hq) hl') hc hs kr)
theorem put0 (f g : Nat → Int32) (a : Nat) : fb_put f g a 0 = f := fb_put_0 f g a
def f_sheet (S : MS) (s sort n : Int32) : Int32 × MS := if mIn s 0 3 = 0 ∨ mIn sort (-1) 2 = 0 then (-2, S) else if sort = -1 then (1, up2 S 48 s.toNatClampNeg (-1)) else if 40 < n then (-2, S) else if n < 0 then (-14, S) else (1, setA (up2 (up2 S 48 s.toNatClampNeg sort) 49 s.toNatClampNeg n) 50 (fb_put (S 50) (fun _ => 0) (40 * s.toNatClampNeg) n.toNatClampNeg))
def mCut (sort v : Int32) : Int32 := if sort = 0 then v.toInt8.toInt32 else if sort = 1 then v.toInt16.toInt32 else v
def f_cell (S : MS) (s i v : Int32) : Int32 × MS := if mIn s 0 3 = 0 then (-2, S) else if S 48 s.toNatClampNeg < 0 then (-11, S) else if mIn i 0 (S 49 s.toNatClampNeg - 1) = 0 then (-12, S) else (1, up2 S 50 (40 * s.toNatClampNeg + i.toNatClampNeg) (mCut (S 48 s.toNatClampNeg) v))
theorem n40 {j i : Nat} (hj : j ≤ 3) (hi : i ≤ 40) : 40 * nI j + nI i = nI (40 * j + i) := by
  rw [show (40 : Int32) = nI 40 from rfl, pk_mul, nI_add]
set_option maxHeartbeats 4000000 in
set_option maxRecDepth 100000 in
theorem lp_sheet (G : Gt) (m : Nat) (h0 : Ht) (S : MS) (j q : Nat) (srt : Int32) (hj : j ≤ 3) (hq : q ≤ 40) (Post : Option Value → MS → Prop) (K : PX G (MPic G m h0) 3 Y12_sheet 91 [some (.ref m), some (.int (nI j)), some (.int srt), some (.int (nI q)), some (.int (nI q))] [] (setA S 50 (fb_put (S 50) (fun _ => 0) (40 * j) q)) 0 0 Post) : ∀ (kk i : Nat), i ≤ q → q + 1 ≤ i + kk → PX G (MPic G m h0) 3 Y12_sheet 66 [some (.ref m), some (.int (nI j)), some (.int srt), some (.int (nI q)), some (.int (nI i))] [] (setA S 50 (fb_put (S 50) (fun _ => 0) (40 * j) i)) 0 0 Post := by
  intro kk
  induction kk with
  | zero => intro i h1 h2; omega
  | succ kk ih =>
    intro i h1 h2
    refine px_iload dX12_sheet_66 rfl ?_
    refine px_iload_n dX12_sheet_68 rfl rfl ?_
    refine px_icmp_ge (tgt := 91) dX12_sheet_69 (by decide) (fun H69 => ?_) (fun H69 => ?_)
    · skip
      skip
      have eN : i = q := by have := ge_n (a := i) (b := q) (by omega) (by omega) H69; omega
      rw [eN]
      exact K
    · skip
      skip
      have lN : i < q := lt_n (a := i) (b := q) (by omega) (by omega) H69
      refine px_aload_n dX12_sheet_72 rfl rfl ?_
      refine mx_getA (k := 50) (j := 27) dX12_sheet_73 gX12_97 (fun _ => rfl) ?_
      refine px_bipush (v := 40) dX12_sheet_76 (by decide) ?_
      refine px_iload_n dX12_sheet_78 rfl rfl ?_
      refine px_imul dX12_sheet_79 ?_
      refine px_iload dX12_sheet_80 rfl ?_
      refine px_iadd dX12_sheet_82 ?_
      refine px_iconst (v := 0) dX12_sheet_83 (by decide) ?_
      refine mx_iast (j := 27) (k := 50) _ dX12_sheet_84 rfl (n40 hj (by omega)) (by omega) (by decide) ?_
      refine px_iinc_4 (v := 1) dX12_sheet_85 (by decide) (by decide) rfl ?_
      refine px_goto (tgt := 66) dX12_sheet_88 (by decide) ?_
      refine px_lw (ls' := [some (.ref m), some (.int (nI j)), some (.int srt), some (.int (nI q)), some (.int (nI (i + 1)))]) ?_ (px_S (S' := setA S 50 (fb_put (S 50) (fun _ => 0) (40 * j) (i + 1))) ?_ (ih (i + 1) (by omega) (by omega)))
      · (simp [LW, LW, nI_1, *]; done)
      · exact Eq.trans setA_up (congrArg _ (fb_put_succ _ (fun _ => 0) _ _))
theorem lp_sheet_0 (G : Gt) (m : Nat) (h0 : Ht) (S : MS) (j q : Nat) (srt : Int32) (hj : j ≤ 3) (hq : q ≤ 40) (Post : Option Value → MS → Prop) (K : PX G (MPic G m h0) 3 Y12_sheet 91 [some (.ref m), some (.int (nI j)), some (.int srt), some (.int (nI q)), some (.int (nI q))] [] (setA S 50 (fb_put (S 50) (fun _ => 0) (40 * j) q)) 0 0 Post) : PX G (MPic G m h0) 3 Y12_sheet 66 [some (.ref m), some (.int (nI j)), some (.int srt), some (.int (nI q)), some (.int (nI 0))] [] S 0 0 Post :=
  px_S (by rw [put0, setA_id]) (lp_sheet G m h0 S j q srt hj hq Post K (q + 1) 0 (by omega) (by omega))
set_option maxHeartbeats 4000000 in
set_option maxRecDepth 100000 in
theorem c_X12_sheet (G : Gt) (m : Nat) (h0 : Ht) (S : MS) (s srt z : Int32)  : PC G (MPic G m h0) 3 Y12_sheet [.ref m, .int s, .int srt, .int z] S 0 0 (ri (fun x S' => x = (f_sheet S s srt z).1 ∧ S' = (f_sheet S s srt z).2)) := by
  refine pc_of (ls := [some (.ref m), some (.int s), some (.int srt), some (.int z), none]) (by decide +kernel) rfl (Nat.le_of_ble_eq_true rfl) ?_
  refine px_iload_n dX12_sheet_0 rfl rfl ?_
  refine px_pure1 dX12_sheet_1 lX12_323 (c_X12_isSheet G _) (by decide) (Nat.le_of_ble_eq_true rfl) ?_
  refine px_if_eq (tgt := 16) dX12_sheet_4 (by decide) (fun H4 => ?_) (fun H4 => ?_)
  · skip
    refine px_bipush (v := (-2)) dX12_sheet_16 (by decide) ?_
    refine px_iretI dX12_sheet_18 rfl ?_
    exact ⟨by simp [f_sheet, *], Eq.symm (by simp [f_sheet, *])⟩
  · skip
    refine px_iload_n dX12_sheet_7 rfl rfl ?_
    refine px_iconst (v := (-1)) dX12_sheet_8 (by decide) ?_
    refine px_iconst (v := 2) dX12_sheet_9 (by decide) ?_
    refine px_pure3 dX12_sheet_10 lX12_109 (c_X12_in G _ _ _) (by decide) (Nat.le_of_ble_eq_true rfl) ?_
    refine px_if_ne (tgt := 19) dX12_sheet_13 (by decide) (fun H13 => ?_) (fun H13 => ?_)
    · skip
      obtain ⟨j, hj, rfl⟩ := in_of (n := 3) rfl (by omega) H4
      have tj : (nI j).toNatClampNeg = j := nI_clamp (by omega)
      refine px_iload_n dX12_sheet_19 rfl rfl ?_
      refine px_iconst (v := (-1)) dX12_sheet_20 (by decide) ?_
      refine px_icmp_ne (tgt := 33) dX12_sheet_21 (by decide) (fun H21 => ?_) (fun H21 => ?_)
      · skip
        refine px_iload_n dX12_sheet_33 rfl rfl ?_
        refine px_bipush (v := 40) dX12_sheet_34 (by decide) ?_
        refine px_icmp_le (tgt := 42) dX12_sheet_36 (by decide) (fun H36 => ?_) (fun H36 => ?_)
        · skip
          refine px_iload_n dX12_sheet_42 rfl rfl ?_
          refine px_if_ge (tgt := 49) dX12_sheet_43 (by decide) (fun H43 => ?_) (fun H43 => ?_)
          · skip
            obtain ⟨q, hq, rfl⟩ := nI_of2 (n := 40) (M := 40) (by decide) H43 (Int32.not_lt.mp H36)
            have tq : (nI q).toNatClampNeg = q := nI_clamp (by omega)
            refine px_aload_n dX12_sheet_49 rfl rfl ?_
            refine mx_getA (k := 48) (j := 25) dX12_sheet_50 gX12_91 (fun _ => rfl) ?_
            refine px_iload_n dX12_sheet_53 rfl rfl ?_
            refine px_iload_n dX12_sheet_54 rfl rfl ?_
            refine mx_iast (j := 25) (k := 48) _ dX12_sheet_55 rfl rfl (by omega) (by decide) ?_
            refine px_aload_n dX12_sheet_56 rfl rfl ?_
            refine mx_getA (k := 49) (j := 26) dX12_sheet_57 gX12_94 (fun _ => rfl) ?_
            refine px_iload_n dX12_sheet_60 rfl rfl ?_
            refine px_iload_n dX12_sheet_61 rfl rfl ?_
            refine mx_iast (j := 26) (k := 49) _ dX12_sheet_62 rfl rfl (by omega) (by decide) ?_
            refine px_iconst (v := 0) dX12_sheet_63 (by decide) ?_
            refine px_istore_4 dX12_sheet_64 (by decide) rfl ?_
            refine lp_sheet_0 G m h0 _ j q _ hj hq _ ?_
            refine px_iconst (v := 1) dX12_sheet_91 (by decide) ?_
            refine px_iretI dX12_sheet_92 rfl ?_
            exact ⟨by simp [f_sheet, *], by simp [f_sheet, tj, tq, H4, H13, H21, H36, H43]; rfl⟩
          · skip
            refine px_bipush (v := (-14)) dX12_sheet_46 (by decide) ?_
            refine px_iretI dX12_sheet_48 rfl ?_
            exact ⟨by simp [f_sheet, *], Eq.symm (by simp [f_sheet, *])⟩
        · skip
          refine px_bipush (v := (-2)) dX12_sheet_39 (by decide) ?_
          refine px_iretI dX12_sheet_41 rfl ?_
          exact ⟨by simp [f_sheet, *], Eq.symm (by simp [f_sheet, *])⟩
      · skip
        subst H21
        refine px_aload_n dX12_sheet_24 rfl rfl ?_
        refine mx_getA (k := 48) (j := 25) dX12_sheet_25 gX12_91 (fun _ => rfl) ?_
        refine px_iload_n dX12_sheet_28 rfl rfl ?_
        refine px_iconst (v := (-1)) dX12_sheet_29 (by decide) ?_
        refine mx_iast (j := 25) (k := 48) _ dX12_sheet_30 rfl rfl (by omega) (by decide) ?_
        refine px_iconst (v := 1) dX12_sheet_31 (by decide) ?_
        refine px_iretI dX12_sheet_32 rfl ?_
        exact ⟨by simp [f_sheet, *], Eq.symm (by simp [f_sheet, *])⟩
    · skip
      refine px_bipush (v := (-2)) dX12_sheet_16 (by decide) ?_
      refine px_iretI dX12_sheet_18 rfl ?_
      exact ⟨by simp [f_sheet, *], Eq.symm (by simp [f_sheet, *])⟩
set_option maxHeartbeats 4000000 in
set_option maxRecDepth 100000 in
theorem c_X12_cell (G : Gt) (m : Nat) (h0 : Ht) (S : MS) (s i v : Int32) (hZ : ∀ j, j ≤ 3 → ∃ q, q ≤ 40 ∧ S 49 j = nI q) : PC G (MPic G m h0) 3 Y12_cell [.ref m, .int s, .int i, .int v] S 0 0 (ri (fun x S' => x = (f_cell S s i v).1 ∧ S' = (f_cell S s i v).2)) := by
  refine pc_of (ls := [some (.ref m), some (.int s), some (.int i), some (.int v)]) (by decide +kernel) rfl (Nat.le_of_ble_eq_true rfl) ?_
  refine px_iload_n dX12_cell_0 rfl rfl ?_
  refine px_pure1 dX12_cell_1 lX12_323 (c_X12_isSheet G _) (by decide) (Nat.le_of_ble_eq_true rfl) ?_
  refine px_if_ne (tgt := 10) dX12_cell_4 (by decide) (fun H4 => ?_) (fun H4 => ?_)
  · skip
    obtain ⟨j, hj, rfl⟩ := in_of (n := 3) rfl (by omega) H4
    have tj : (nI j).toNatClampNeg = j := nI_clamp (by omega)
    obtain ⟨q, hq, eq⟩ := hZ j hj
    refine px_aload_n dX12_cell_10 rfl rfl ?_
    refine mx_getA (k := 48) (j := 25) dX12_cell_11 gX12_91 (fun _ => rfl) ?_
    refine px_iload_n dX12_cell_14 rfl rfl ?_
    refine mx_iald (j := 25) (k := 48) _ dX12_cell_15 rfl rfl (by omega) (by decide) ?_
    refine px_if_ge (tgt := 22) dX12_cell_16 (by decide) (fun H16 => ?_) (fun H16 => ?_)
    · skip
      refine px_iload_n dX12_cell_22 rfl rfl ?_
      refine px_iconst (v := 0) dX12_cell_23 (by decide) ?_
      refine px_aload_n dX12_cell_24 rfl rfl ?_
      refine mx_getA (k := 49) (j := 26) dX12_cell_25 gX12_94 (fun _ => rfl) ?_
      refine px_iload_n dX12_cell_28 rfl rfl ?_
      refine mx_iald (j := 26) (k := 49) _ dX12_cell_29 rfl rfl (by omega) (by decide) ?_
      refine px_iconst (v := 1) dX12_cell_30 (by decide) ?_
      refine px_isub dX12_cell_31 ?_
      refine px_pure3 dX12_cell_32 lX12_109 (c_X12_in G _ _ _) (by decide) (Nat.le_of_ble_eq_true rfl) ?_
      refine px_if_ne (tgt := 41) dX12_cell_35 (by decide) (fun H35 => ?_) (fun H35 => ?_)
      · skip
        rw [eq] at H35
        obtain ⟨k, hk, rfl⟩ := ix_of (n := q) (by omega) H35
        have tk : (nI k).toNatClampNeg = k := nI_clamp (by omega)
        refine px_aload_n dX12_cell_41 rfl rfl ?_
        refine mx_getA (k := 50) (j := 27) dX12_cell_42 gX12_97 (fun _ => rfl) ?_
        refine px_bipush (v := 40) dX12_cell_45 (by decide) ?_
        refine px_iload_n dX12_cell_47 rfl rfl ?_
        refine px_imul dX12_cell_48 ?_
        refine px_iload_n dX12_cell_49 rfl rfl ?_
        refine px_iadd dX12_cell_50 ?_
        refine px_aload_n dX12_cell_51 rfl rfl ?_
        refine mx_getA (k := 48) (j := 25) dX12_cell_52 gX12_91 (fun _ => rfl) ?_
        refine px_iload_n dX12_cell_55 rfl rfl ?_
        refine mx_iald (j := 25) (k := 48) _ dX12_cell_56 rfl rfl (by omega) (by decide) ?_
        refine px_if_ne (tgt := 65) dX12_cell_57 (by decide) (fun H57 => ?_) (fun H57 => ?_)
        · skip
          refine px_aload_n dX12_cell_65 rfl rfl ?_
          refine mx_getA (k := 48) (j := 25) dX12_cell_66 gX12_91 (fun _ => rfl) ?_
          refine px_iload_n dX12_cell_69 rfl rfl ?_
          refine mx_iald (j := 25) (k := 48) _ dX12_cell_70 rfl rfl (by omega) (by decide) ?_
          refine px_iconst (v := 1) dX12_cell_71 (by decide) ?_
          refine px_icmp_ne (tgt := 80) dX12_cell_72 (by decide) (fun H72 => ?_) (fun H72 => ?_)
          · skip
            refine px_iload_n dX12_cell_80 rfl rfl ?_
            refine mx_iast (j := 27) (k := 50) _ dX12_cell_81 rfl (n40 hj (by omega)) (by omega) (by decide) ?_
            refine px_iconst (v := 1) dX12_cell_82 (by decide) ?_
            refine px_iretI dX12_cell_83 rfl ?_
            exact ⟨by simp [f_cell, mCut, *], Eq.symm (by simp [f_cell, mCut, *])⟩
          · skip
            refine px_iload_n dX12_cell_75 rfl rfl ?_
            refine px_i2s dX12_cell_76 ?_
            refine px_goto (tgt := 81) dX12_cell_77 (by decide) ?_
            refine mx_iast (j := 27) (k := 50) _ dX12_cell_81 rfl (n40 hj (by omega)) (by omega) (by decide) ?_
            refine px_iconst (v := 1) dX12_cell_82 (by decide) ?_
            refine px_iretI dX12_cell_83 rfl ?_
            exact ⟨by simp [f_cell, mCut, *], Eq.symm (by simp [f_cell, mCut, *])⟩
        · skip
          refine px_iload_n dX12_cell_60 rfl rfl ?_
          refine px_i2b dX12_cell_61 ?_
          refine px_goto (tgt := 81) dX12_cell_62 (by decide) ?_
          refine mx_iast (j := 27) (k := 50) _ dX12_cell_81 rfl (n40 hj (by omega)) (by omega) (by decide) ?_
          refine px_iconst (v := 1) dX12_cell_82 (by decide) ?_
          refine px_iretI dX12_cell_83 rfl ?_
          exact ⟨by simp [f_cell, mCut, *], Eq.symm (by simp [f_cell, mCut, *])⟩
      · skip
        rw [eq] at H35
        refine px_bipush (v := (-12)) dX12_cell_38 (by decide) ?_
        refine px_iretI dX12_cell_40 rfl ?_
        exact ⟨by simp [f_cell, mCut, *], Eq.symm (by simp [f_cell, mCut, *])⟩
    · skip
      refine px_bipush (v := (-11)) dX12_cell_19 (by decide) ?_
      refine px_iretI dX12_cell_21 rfl ?_
      exact ⟨by simp [f_cell, mCut, *], Eq.symm (by simp [f_cell, mCut, *])⟩
  · skip
    refine px_bipush (v := (-2)) dX12_cell_7 (by decide) ?_
    refine px_iretI dX12_cell_9 rfl ?_
    exact ⟨by simp [f_cell, mCut, *], Eq.symm (by simp [f_cell, mCut, *])⟩
/-- byte k of a number -/
def bOf (b : Int64) (k : Nat) : Int32 := (b >>> ((8 * nI k).toInt64 &&& 63)).toInt32.toInt8.toInt32
def tN (S : MS) : Nat := (S 15 0).toNatClampNeg
def f_feed (S : MS) (n : Int32) (b : Int64) : Int32 × MS := if mIn n 1 8 = 0 then (-2, S) else if 160 < S 15 0 + n then (-4, S) else (S 15 0 + n, up2 (setA S 14 (fb_put (S 14) (bOf b) (tN S) n.toNatClampNeg)) 15 0 (S 15 0 + n))
def sFd (S : MS) (b : Int64) (t i : Nat) : MS := up2 (setA S 14 (fb_put (S 14) (bOf b) t i)) 15 0 (nI (t + i))
theorem sFd_s {S : MS} {b : Int64} {t i : Nat} : up2 (up2 (sFd S b t i) 14 (t + i) (bOf b i)) 15 0 (nI (t + i) + 1) = sFd S b t (i + 1) := by
  unfold sFd
  rw [nI_1]
  funext q
  by_cases h1 : q = 15
  · subst h1
    rw [up2_eq, up2_ne (by decide), up2_eq, up2_eq, setA_ne (by decide), setA_ne (by decide)]
    funext z
    unfold upd
    by_cases h2 : z = 0
    · simp [h2, Nat.add_assoc]
    · simp [h2]
  · rw [up2_ne h1, up2_ne h1]
    by_cases h2 : q = 14
    · subst h2
      rw [up2_eq, up2_ne (by decide), setA_eq, setA_eq, fb_put_succ]
    · rw [up2_ne h2, up2_ne h1, setA_ne h2, setA_ne h2]
theorem sFd_0 {S : MS} {b : Int64} {t : Nat} (h : S 15 0 = nI t) : S = sFd S b t 0 := by
  unfold sFd
  rw [put0, setA_id, Nat.add_zero, ← h]
  funext q
  by_cases h1 : q = 15
  · subst h1
    rw [up2_eq]
    exact (fa_upd_same rfl).symm
  · rw [up2_ne h1]
set_option maxHeartbeats 4000000 in
set_option maxRecDepth 100000 in
theorem lp_feed (G : Gt) (m : Nat) (h0 : Ht) (S : MS) (q t : Nat) (b : Int64) (ht : S 15 0 = nI t) (hq : t + q ≤ 160) (Post : Option Value → MS → Prop) (K : PX G (MPic G m h0) 2 Y12_feed 71 [some (.ref m), some (.int (nI q)), some (.long b), none, some (.int (nI q))] [] (sFd S b t q) 0 0 Post) : ∀ (kk i : Nat), i ≤ q → q + 1 ≤ i + kk → PX G (MPic G m h0) 2 Y12_feed 31 [some (.ref m), some (.int (nI q)), some (.long b), none, some (.int (nI i))] [] (sFd S b t i) 0 0 Post := by
  intro kk
  induction kk with
  | zero => intro i h1 h2; omega
  | succ kk ih =>
    intro i h1 h2
    refine px_iload dX12_feed_31 rfl ?_
    refine px_iload_n dX12_feed_33 rfl rfl ?_
    refine px_icmp_ge (tgt := 71) dX12_feed_34 (by decide) (fun H34 => ?_) (fun H34 => ?_)
    · skip
      skip
      have eN : i = q := by have := ge_n (a := i) (b := q) (by omega) (by omega) H34; omega
      rw [eN]
      exact K
    · skip
      skip
      have lN : i < q := lt_n (a := i) (b := q) (by omega) (by omega) H34
      refine px_aload_n dX12_feed_37 rfl rfl ?_
      refine mx_getA (k := 14) (j := 11) dX12_feed_38 gX12_44 (fun _ => rfl) ?_
      refine px_aload_n dX12_feed_41 rfl rfl ?_
      refine mx_getI (k := 15) dX12_feed_42 gX12_149 (fun _ => rfl) ?_
      refine px_lload_n dX12_feed_45 rfl rfl ?_
      refine px_bipush (v := 8) dX12_feed_46 (by decide) ?_
      refine px_iload dX12_feed_48 rfl ?_
      refine px_imul dX12_feed_50 ?_
      refine px_lshr dX12_feed_51 ?_
      refine px_l2i dX12_feed_52 ?_
      refine px_i2b dX12_feed_53 ?_
      refine mx_bast (j := 11) (k := 14) (t + i) dX12_feed_54 rfl (by rfl) (by omega) (by decide) ?_
      refine px_aload_n dX12_feed_55 rfl rfl ?_
      refine px_dup dX12_feed_56 rfl ?_
      refine mx_getI (k := 15) dX12_feed_57 gX12_149 (fun _ => rfl) ?_
      refine px_iconst (v := 1) dX12_feed_60 (by decide) ?_
      refine px_iadd dX12_feed_61 ?_
      refine mx_putI (k := 15) dX12_feed_62 gX12_149 (by decide) rfl rfl ?_
      refine px_iinc_4 (v := 1) dX12_feed_65 (by decide) (by decide) rfl ?_
      refine px_goto (tgt := 31) dX12_feed_68 (by decide) ?_
      refine px_lw (ls' := [some (.ref m), some (.int (nI q)), some (.long b), none, some (.int (nI (i + 1)))]) ?_ (px_S (S' := sFd S b t (i + 1)) ?_ (ih (i + 1) (by omega) (by omega)))
      · (simp [LW, LW, nI_1, *]; done)
      · rw [vp_nar_byte, fb_byte_twice]
        exact sFd_s
theorem lp_feed_0 (G : Gt) (m : Nat) (h0 : Ht) (S : MS) (q t : Nat) (b : Int64) (ht : S 15 0 = nI t) (hq : t + q ≤ 160) (Post : Option Value → MS → Prop) (K : PX G (MPic G m h0) 2 Y12_feed 71 [some (.ref m), some (.int (nI q)), some (.long b), none, some (.int (nI q))] [] (sFd S b t q) 0 0 Post) : PX G (MPic G m h0) 2 Y12_feed 31 [some (.ref m), some (.int (nI q)), some (.long b), none, some (.int (nI 0))] [] S 0 0 Post :=
  px_S (by exact sFd_0 ht) (lp_feed G m h0 S q t b ht hq Post K (q + 1) 0 (by omega) (by omega))
set_option maxHeartbeats 4000000 in
set_option maxRecDepth 100000 in
theorem c_X12_feed (G : Gt) (m : Nat) (h0 : Ht) (S : MS) (z : Int32) (b : Int64) (t : Nat) (ht : S 15 0 = nI t) (ht2 : t ≤ 160) : PC G (MPic G m h0) 2 Y12_feed [.ref m, .int z, .long b] S 0 0 (ri (fun x S' => x = (f_feed S z b).1 ∧ S' = (f_feed S z b).2)) := by
  refine pc_of (ls := [some (.ref m), some (.int z), some (.long b), none, none]) (by decide +kernel) rfl (Nat.le_of_ble_eq_true rfl) ?_
  refine px_iload_n dX12_feed_0 rfl rfl ?_
  refine px_iconst (v := 1) dX12_feed_1 (by decide) ?_
  refine px_bipush (v := 8) dX12_feed_2 (by decide) ?_
  refine px_pure3 dX12_feed_4 lX12_109 (c_X12_in G _ _ _) (by decide) (Nat.le_of_ble_eq_true rfl) ?_
  refine px_if_ne (tgt := 13) dX12_feed_7 (by decide) (fun H7 => ?_) (fun H7 => ?_)
  · skip
    obtain ⟨q, hq, rfl⟩ := nI_of2 (n := 8) (x := z) (M := 8) (by decide) (fun e9 => (mIn_1.mp H7).1 (Int32.lt_trans e9 (by decide))) (Int32.not_lt.mp (mIn_1.mp H7).2)
    have tq : (nI q).toNatClampNeg = q := nI_clamp (by omega)
    have tt : tN S = t := by unfold tN; rw [ht, nI_clamp (by omega)]
    refine px_aload_n dX12_feed_13 rfl rfl ?_
    refine mx_getI (k := 15) dX12_feed_14 gX12_149 (fun _ => rfl) ?_
    refine px_iload_n dX12_feed_17 rfl rfl ?_
    refine px_iadd dX12_feed_18 ?_
    refine px_sipush (v := 160) dX12_feed_19 (by decide) ?_
    refine px_icmp_le (tgt := 28) dX12_feed_22 (by decide) (fun H22 => ?_) (fun H22 => ?_)
    · skip
      rw [ht, nI_add] at H22
      have l160 : t + q ≤ 160 := ge_n (a := 160) (b := t + q) (by omega) (by omega) H22
      refine px_iconst (v := 0) dX12_feed_28 (by decide) ?_
      refine px_istore_4 dX12_feed_29 (by decide) rfl ?_
      refine lp_feed_0 G m h0 _ q t b (by exact ht) l160 _ ?_
      refine px_aload_n dX12_feed_71 rfl rfl ?_
      refine mx_getI (k := 15) dX12_feed_72 gX12_149 (fun _ => rfl) ?_
      refine px_iretI dX12_feed_75 rfl ?_
      exact ⟨by simp [f_feed, ht, nI_add, H7, H22]; rfl, by simp [f_feed, ht, nI_add, H7, H22, tq, tt]; rfl⟩
    · skip
      rw [ht, nI_add] at H22
      refine px_bipush (v := (-4)) dX12_feed_25 (by decide) ?_
      refine px_iretI dX12_feed_27 rfl ?_
      exact ⟨by simp [f_feed, ht, nI_add, H7, H22], Eq.symm (by simp [f_feed, ht, nI_add, H7, H22])⟩
  · skip
    refine px_bipush (v := (-2)) dX12_feed_10 (by decide) ?_
    refine px_iretI dX12_feed_12 rfl ?_
    exact ⟨by simp [f_feed, *], Eq.symm (by simp [f_feed, *])⟩
theorem lcmp_gt {x y : Int64} : 0 < lg_cmp x y ↔ y.toInt < x.toInt := by
  rw [← fa_lt64]
  unfold lg_cmp
  by_cases h : y < x
  · simp [h]; try decide
  · by_cases h2 : x = y <;> simp [h, h2] <;> try decide
theorem lcmp_lt {x y : Int64} : lg_cmp x y < 0 ↔ x.toInt < y.toInt := by
  have hxy := fa_lt64 y x
  have he := fa_eq64 x y
  unfold lg_cmp
  by_cases h : y < x
  · simp [h]
    rw [hxy] at h
    omega
  · by_cases h2 : x = y
    · simp [h2]
      try decide
    · simp [h, h2]
      rw [hxy] at h
      rw [he] at h2
      omega
theorem l_add {a b : Int32} : (a.toInt64 + b.toInt64).toInt = a.toInt + b.toInt := by
  have h1 := fb_rng a
  have h2 := fb_rng b
  rw [fb_addL] <;> rw [Int32.toInt_toInt64, Int32.toInt_toInt64] <;> omega
def f_copy (S : MS) (s i o j n : Int32) : Int32 × MS := if mIn s 0 3 = 0 ∨ mIn o 0 3 = 0 then (-2, S) else if S 48 s.toNatClampNeg < 0 ∨ S 48 o.toNatClampNeg < 0 then (-11, S) else if ¬ S 48 s.toNatClampNeg = S 48 o.toNatClampNeg then (-13, S) else if n < 0 ∨ i < 0 ∨ j < 0 ∨ (S 49 s.toNatClampNeg).toInt < i.toInt + n.toInt ∨ (S 49 o.toNatClampNeg).toInt < j.toInt + n.toInt then (-12, S) else (n, setA S 50 (fb_put (S 50) (fun k => S 50 (40 * s.toNatClampNeg + i.toNatClampNeg + k)) (40 * o.toNatClampNeg + j.toNatClampNeg) n.toNatClampNeg))
def sC1 (S : MS) (a : Nat) (k : Nat) : MS := setA S 51 (fa_fill (fun z => S 50 (a + z)) (S 51) k)
def sC2 (S : MS) (a k : Nat) : MS := setA S 50 (fb_put (S 50) (fun z => S 51 z) a k)
theorem n40' {j i k : Nat} : 40 * nI j + nI i + nI k = nI (40 * j + i + k) := by
  rw [show (40 : Int32) = nI 40 from rfl, pk_mul, nI_add, nI_add]
set_option maxHeartbeats 4000000 in
set_option maxRecDepth 100000 in
theorem lp_cp1 (G : Gt) (m : Nat) (h0 : Ht) (S : MS) (a i0 b j0 q : Nat) (ha : a ≤ 3) (hb : b ≤ 3) (h1q : i0 + q ≤ 40) (h2q : j0 + q ≤ 40) (Post : Option Value → MS → Prop) (K : PX G (MPic G m h0) 3 Y12_copy 145 [some (.ref m), some (.int (nI a)), some (.int (nI i0)), some (.int (nI b)), some (.int (nI j0)), some (.int (nI q)), some (.int (nI q))] [] (sC1 S (40 * a + i0) q) 0 0 Post) : ∀ (kk k : Nat), k ≤ q → q + 1 ≤ k + kk → PX G (MPic G m h0) 3 Y12_copy 111 [some (.ref m), some (.int (nI a)), some (.int (nI i0)), some (.int (nI b)), some (.int (nI j0)), some (.int (nI q)), some (.int (nI k))] [] (sC1 S (40 * a + i0) k) 0 0 Post := by
  intro kk
  induction kk with
  | zero => intro k h1 h2; omega
  | succ kk ih =>
    intro k h1 h2
    refine px_iload dX12_copy_111 rfl ?_
    refine px_iload dX12_copy_113 rfl ?_
    refine px_icmp_ge (tgt := 145) dX12_copy_115 (by decide) (fun H115 => ?_) (fun H115 => ?_)
    · skip
      skip
      have eN : k = q := by have := ge_n (a := k) (b := q) (by omega) (by omega) H115; omega
      rw [eN]
      exact K
    · skip
      skip
      have lN : k < q := lt_n (a := k) (b := q) (by omega) (by omega) H115
      refine px_aload_n dX12_copy_118 rfl rfl ?_
      refine mx_getA (k := 51) (j := 28) dX12_copy_119 gX12_100 (fun _ => rfl) ?_
      refine px_iload dX12_copy_122 rfl ?_
      refine px_aload_n dX12_copy_124 rfl rfl ?_
      refine mx_getA (k := 50) (j := 27) dX12_copy_125 gX12_97 (fun _ => rfl) ?_
      refine px_bipush (v := 40) dX12_copy_128 (by decide) ?_
      refine px_iload_n dX12_copy_130 rfl rfl ?_
      refine px_imul dX12_copy_131 ?_
      refine px_iload_n dX12_copy_132 rfl rfl ?_
      refine px_iadd dX12_copy_133 ?_
      refine px_iload dX12_copy_134 rfl ?_
      refine px_iadd dX12_copy_136 ?_
      refine mx_iald (j := 27) (k := 50) (40 * a + i0 + k) dX12_copy_137 rfl n40' (by omega) (by decide) ?_
      refine mx_iast (j := 28) (k := 51) (k) dX12_copy_138 rfl rfl (by omega) (by decide) ?_
      refine px_iinc_6 (v := 1) dX12_copy_139 (by decide) (by decide) rfl ?_
      refine px_goto (tgt := 111) dX12_copy_142 (by decide) ?_
      refine px_lw (ls' := [some (.ref m), some (.int (nI a)), some (.int (nI i0)), some (.int (nI b)), some (.int (nI j0)), some (.int (nI q)), some (.int (nI (k + 1)))]) ?_ (px_S (S' := sC1 S (40 * a + i0) (k + 1)) ?_ (ih (k + 1) (by omega) (by omega)))
      · (simp [LW, LW, nI_1, *]; done)
      · exact Eq.trans setA_up (congrArg _ (fa_fill_succ (fun z => S 50 (40 * a + i0 + z)) (S 51) k))
theorem lp_cp1_0 (G : Gt) (m : Nat) (h0 : Ht) (S : MS) (a i0 b j0 q : Nat) (ha : a ≤ 3) (hb : b ≤ 3) (h1q : i0 + q ≤ 40) (h2q : j0 + q ≤ 40) (Post : Option Value → MS → Prop) (K : PX G (MPic G m h0) 3 Y12_copy 145 [some (.ref m), some (.int (nI a)), some (.int (nI i0)), some (.int (nI b)), some (.int (nI j0)), some (.int (nI q)), some (.int (nI q))] [] (sC1 S (40 * a + i0) q) 0 0 Post) : PX G (MPic G m h0) 3 Y12_copy 111 [some (.ref m), some (.int (nI a)), some (.int (nI i0)), some (.int (nI b)), some (.int (nI j0)), some (.int (nI q)), some (.int (nI 0))] [] S 0 0 Post :=
  px_S (by unfold sC1; rw [fill0, setA_id]) (lp_cp1 G m h0 S a i0 b j0 q ha hb h1q h2q Post K (q + 1) 0 (by omega) (by omega))
set_option maxHeartbeats 4000000 in
set_option maxRecDepth 100000 in
theorem lp_cp2 (G : Gt) (m : Nat) (h0 : Ht) (S : MS) (a i0 b j0 q : Nat) (ha : a ≤ 3) (hb : b ≤ 3) (h1q : i0 + q ≤ 40) (h2q : j0 + q ≤ 40) (Post : Option Value → MS → Prop) (K : PX G (MPic G m h0) 3 Y12_copy 183 [some (.ref m), some (.int (nI a)), some (.int (nI i0)), some (.int (nI b)), some (.int (nI j0)), some (.int (nI q)), some (.int (nI q))] [] (sC2 S (40 * b + j0) q) 0 0 Post) : ∀ (kk k : Nat), k ≤ q → q + 1 ≤ k + kk → PX G (MPic G m h0) 3 Y12_copy 148 [some (.ref m), some (.int (nI a)), some (.int (nI i0)), some (.int (nI b)), some (.int (nI j0)), some (.int (nI q)), some (.int (nI k))] [] (sC2 S (40 * b + j0) k) 0 0 Post := by
  intro kk
  induction kk with
  | zero => intro k h1 h2; omega
  | succ kk ih =>
    intro k h1 h2
    refine px_iload dX12_copy_148 rfl ?_
    refine px_iload dX12_copy_150 rfl ?_
    refine px_icmp_ge (tgt := 183) dX12_copy_152 (by decide) (fun H152 => ?_) (fun H152 => ?_)
    · skip
      skip
      have eN : k = q := by have := ge_n (a := k) (b := q) (by omega) (by omega) H152; omega
      rw [eN]
      exact K
    · skip
      skip
      have lN : k < q := lt_n (a := k) (b := q) (by omega) (by omega) H152
      refine px_aload_n dX12_copy_155 rfl rfl ?_
      refine mx_getA (k := 50) (j := 27) dX12_copy_156 gX12_97 (fun _ => rfl) ?_
      refine px_bipush (v := 40) dX12_copy_159 (by decide) ?_
      refine px_iload_n dX12_copy_161 rfl rfl ?_
      refine px_imul dX12_copy_162 ?_
      refine px_iload dX12_copy_163 rfl ?_
      refine px_iadd dX12_copy_165 ?_
      refine px_iload dX12_copy_166 rfl ?_
      refine px_iadd dX12_copy_168 ?_
      refine px_aload_n dX12_copy_169 rfl rfl ?_
      refine mx_getA (k := 51) (j := 28) dX12_copy_170 gX12_100 (fun _ => rfl) ?_
      refine px_iload dX12_copy_173 rfl ?_
      refine mx_iald (j := 28) (k := 51) (k) dX12_copy_175 rfl rfl (by omega) (by decide) ?_
      refine mx_iast (j := 27) (k := 50) (40 * b + j0 + k) dX12_copy_176 rfl n40' (by omega) (by decide) ?_
      refine px_iinc_6 (v := 1) dX12_copy_177 (by decide) (by decide) rfl ?_
      refine px_goto (tgt := 148) dX12_copy_180 (by decide) ?_
      refine px_lw (ls' := [some (.ref m), some (.int (nI a)), some (.int (nI i0)), some (.int (nI b)), some (.int (nI j0)), some (.int (nI q)), some (.int (nI (k + 1)))]) ?_ (px_S (S' := sC2 S (40 * b + j0) (k + 1)) ?_ (ih (k + 1) (by omega) (by omega)))
      · (simp [LW, LW, nI_1, *]; done)
      · exact Eq.trans setA_up (congrArg _ (fb_put_succ (S 50) (fun z => S 51 z) (40 * b + j0) k))
theorem lp_cp2_0 (G : Gt) (m : Nat) (h0 : Ht) (S : MS) (a i0 b j0 q : Nat) (ha : a ≤ 3) (hb : b ≤ 3) (h1q : i0 + q ≤ 40) (h2q : j0 + q ≤ 40) (Post : Option Value → MS → Prop) (K : PX G (MPic G m h0) 3 Y12_copy 183 [some (.ref m), some (.int (nI a)), some (.int (nI i0)), some (.int (nI b)), some (.int (nI j0)), some (.int (nI q)), some (.int (nI q))] [] (sC2 S (40 * b + j0) q) 0 0 Post) : PX G (MPic G m h0) 3 Y12_copy 148 [some (.ref m), some (.int (nI a)), some (.int (nI i0)), some (.int (nI b)), some (.int (nI j0)), some (.int (nI q)), some (.int (nI 0))] [] S 0 0 Post :=
  px_S (by unfold sC2; rw [put0, setA_id]) (lp_cp2 G m h0 S a i0 b j0 q ha hb h1q h2q Post K (q + 1) 0 (by omega) (by omega))
theorem f_copy_ok {S : MS} {a i0 b j0 q : Nat} : fr [51] (setA S 50 (fb_put (S 50) (fun k => S 50 (40 * a + i0 + k)) (40 * b + j0) q)) (sC2 (sC1 S (40 * a + i0) q) (40 * b + j0) q) := by
  intro k hk
  have h51 : k ≠ 51 := fun e => hk (by rw [e]; exact List.mem_singleton.mpr rfl)
  unfold sC2 sC1
  by_cases h : k = 50
  · subst h
    rw [setA_eq, setA_eq, setA_ne (by decide), setA_eq]
    exact fb_put_cong (fun _ _ => rfl) (fun z hz => fa_fill_in hz)
  · rw [setA_ne h, setA_ne h, setA_ne h51]
theorem i_nn {x : Int32} (h : ¬ x < 0) : 0 ≤ x.toInt := by
  have h1 := mt i_lt.mpr h
  rw [show (0 : Int32).toInt = 0 from by decide] at h1
  omega
theorem nn_of {x : Int32} (h : ¬ x < 0) (hb : x.toInt ≤ 100000) : ∃ q : Nat, x = nI q ∧ x.toInt = (q : Int) ∧ x.toNatClampNeg = q := by
  have h1 := i_nn h
  have e : x = nI x.toInt.toNat := by rw [i_eq, nI_toInt' (by omega)]; omega
  refine ⟨x.toInt.toNat, e, by omega, ?_⟩
  rw [e, nI_clamp (by omega), ← e]
theorem tIn {n : Nat} (h : n ≤ 100000) : (nI n).toInt = (n : Int) := nI_toInt' h
set_option maxHeartbeats 4000000 in
set_option maxRecDepth 100000 in
theorem c_X12_copy (G : Gt) (m : Nat) (h0 : Ht) (S : MS) (s i o j z : Int32) (hZ : ∀ j, j ≤ 3 → ∃ q, q ≤ 40 ∧ S 49 j = nI q) : PC G (MPic G m h0) 3 Y12_copy [.ref m, .int s, .int i, .int o, .int j, .int z] S 0 0 (ri (fun x S' => x = (f_copy S s i o j z).1 ∧ fr [51] (f_copy S s i o j z).2 S')) := by
  refine pc_of (ls := [some (.ref m), some (.int s), some (.int i), some (.int o), some (.int j), some (.int z), none]) (by decide +kernel) rfl (Nat.le_of_ble_eq_true rfl) ?_
  refine px_iload_n dX12_copy_0 rfl rfl ?_
  refine px_pure1 dX12_copy_1 lX12_323 (c_X12_isSheet G _) (by decide) (Nat.le_of_ble_eq_true rfl) ?_
  refine px_if_eq (tgt := 14) dX12_copy_4 (by decide) (fun H4 => ?_) (fun H4 => ?_)
  · skip
    refine px_bipush (v := (-2)) dX12_copy_14 (by decide) ?_
    refine px_iretI dX12_copy_16 rfl ?_
    exact ⟨by simp [f_copy, *], fr_eq (by simp [f_copy, *])⟩
  · skip
    refine px_iload_n dX12_copy_7 rfl rfl ?_
    refine px_pure1 dX12_copy_8 lX12_323 (c_X12_isSheet G _) (by decide) (Nat.le_of_ble_eq_true rfl) ?_
    refine px_if_ne (tgt := 17) dX12_copy_11 (by decide) (fun H11 => ?_) (fun H11 => ?_)
    · skip
      obtain ⟨a, ha, rfl⟩ := in_of (n := 3) rfl (by omega) H4
      obtain ⟨b, hb, rfl⟩ := in_of (n := 3) rfl (by omega) H11
      have ta : (nI a).toNatClampNeg = a := nI_clamp (by omega)
      have tb : (nI b).toNatClampNeg = b := nI_clamp (by omega)
      refine px_aload_n dX12_copy_17 rfl rfl ?_
      refine mx_getA (k := 48) (j := 25) dX12_copy_18 gX12_91 (fun _ => rfl) ?_
      refine px_iload_n dX12_copy_21 rfl rfl ?_
      refine mx_iald (j := 25) (k := 48) _ dX12_copy_22 rfl rfl (by omega) (by decide) ?_
      refine px_if_lt (tgt := 35) dX12_copy_23 (by decide) (fun H23 => ?_) (fun H23 => ?_)
      · skip
        refine px_bipush (v := (-11)) dX12_copy_35 (by decide) ?_
        refine px_iretI dX12_copy_37 rfl ?_
        exact ⟨by simp [f_copy, *], fr_eq (by simp [f_copy, *])⟩
      · skip
        refine px_aload_n dX12_copy_26 rfl rfl ?_
        refine mx_getA (k := 48) (j := 25) dX12_copy_27 gX12_91 (fun _ => rfl) ?_
        refine px_iload_n dX12_copy_30 rfl rfl ?_
        refine mx_iald (j := 25) (k := 48) _ dX12_copy_31 rfl rfl (by omega) (by decide) ?_
        refine px_if_ge (tgt := 38) dX12_copy_32 (by decide) (fun H32 => ?_) (fun H32 => ?_)
        · skip
          refine px_aload_n dX12_copy_38 rfl rfl ?_
          refine mx_getA (k := 48) (j := 25) dX12_copy_39 gX12_91 (fun _ => rfl) ?_
          refine px_iload_n dX12_copy_42 rfl rfl ?_
          refine mx_iald (j := 25) (k := 48) _ dX12_copy_43 rfl rfl (by omega) (by decide) ?_
          refine px_aload_n dX12_copy_44 rfl rfl ?_
          refine mx_getA (k := 48) (j := 25) dX12_copy_45 gX12_91 (fun _ => rfl) ?_
          refine px_iload_n dX12_copy_48 rfl rfl ?_
          refine mx_iald (j := 25) (k := 48) _ dX12_copy_49 rfl rfl (by omega) (by decide) ?_
          refine px_icmp_eq (tgt := 56) dX12_copy_50 (by decide) (fun H50 => ?_) (fun H50 => ?_)
          · skip
            refine px_iload dX12_copy_56 rfl ?_
            refine px_if_lt (tgt := 105) dX12_copy_58 (by decide) (fun H58 => ?_) (fun H58 => ?_)
            · skip
              refine px_bipush (v := (-12)) dX12_copy_105 (by decide) ?_
              refine px_iretI dX12_copy_107 rfl ?_
              exact ⟨by simp [f_copy, *], fr_eq (by simp [f_copy, *])⟩
            · skip
              refine px_iload_n dX12_copy_61 rfl rfl ?_
              refine px_if_lt (tgt := 105) dX12_copy_62 (by decide) (fun H62 => ?_) (fun H62 => ?_)
              · skip
                refine px_bipush (v := (-12)) dX12_copy_105 (by decide) ?_
                refine px_iretI dX12_copy_107 rfl ?_
                exact ⟨by simp [f_copy, *], fr_eq (by simp [f_copy, *])⟩
              · skip
                refine px_iload dX12_copy_65 rfl ?_
                refine px_if_lt (tgt := 105) dX12_copy_67 (by decide) (fun H67 => ?_) (fun H67 => ?_)
                · skip
                  refine px_bipush (v := (-12)) dX12_copy_105 (by decide) ?_
                  refine px_iretI dX12_copy_107 rfl ?_
                  exact ⟨by simp [f_copy, *], fr_eq (by simp [f_copy, *])⟩
                · skip
                  refine px_iload_n dX12_copy_70 rfl rfl ?_
                  refine px_i2l dX12_copy_71 ?_
                  refine px_iload dX12_copy_72 rfl ?_
                  refine px_i2l dX12_copy_74 ?_
                  refine px_ladd dX12_copy_75 ?_
                  refine px_aload_n dX12_copy_76 rfl rfl ?_
                  refine mx_getA (k := 49) (j := 26) dX12_copy_77 gX12_94 (fun _ => rfl) ?_
                  refine px_iload_n dX12_copy_80 rfl rfl ?_
                  refine mx_iald (j := 26) (k := 49) _ dX12_copy_81 rfl rfl (by omega) (by decide) ?_
                  refine px_i2l dX12_copy_82 ?_
                  refine px_lcmp dX12_copy_83 ?_
                  refine px_if_gt (tgt := 105) dX12_copy_84 (by decide) (fun H84 => ?_) (fun H84 => ?_)
                  · skip
                    rw [lcmp_gt, l_add, Int32.toInt_toInt64] at H84
                    refine px_bipush (v := (-12)) dX12_copy_105 (by decide) ?_
                    refine px_iretI dX12_copy_107 rfl ?_
                    exact ⟨by simp [f_copy, *], fr_eq (by simp [f_copy, *])⟩
                  · skip
                    rw [lcmp_gt, l_add, Int32.toInt_toInt64] at H84
                    refine px_iload dX12_copy_87 rfl ?_
                    refine px_i2l dX12_copy_89 ?_
                    refine px_iload dX12_copy_90 rfl ?_
                    refine px_i2l dX12_copy_92 ?_
                    refine px_ladd dX12_copy_93 ?_
                    refine px_aload_n dX12_copy_94 rfl rfl ?_
                    refine mx_getA (k := 49) (j := 26) dX12_copy_95 gX12_94 (fun _ => rfl) ?_
                    refine px_iload_n dX12_copy_98 rfl rfl ?_
                    refine mx_iald (j := 26) (k := 49) _ dX12_copy_99 rfl rfl (by omega) (by decide) ?_
                    refine px_i2l dX12_copy_100 ?_
                    refine px_lcmp dX12_copy_101 ?_
                    refine px_if_le (tgt := 108) dX12_copy_102 (by decide) (fun H102 => ?_) (fun H102 => ?_)
                    · skip
                      rw [lcmp_gt, l_add, Int32.toInt_toInt64] at H102
                      obtain ⟨qa, hqa, ea⟩ := hZ a ha
                      obtain ⟨qb, hqb, eb⟩ := hZ b hb
                      have k1 := H84
                      have k2 := H102
                      rw [ea, tIn (by omega)] at k1
                      rw [eb, tIn (by omega)] at k2
                      have z0 := i_nn H58
                      have i0' := i_nn H62
                      have j0' := i_nn H67
                      obtain ⟨q, eq, q2, q3⟩ := nn_of H58 (by omega)
                      obtain ⟨i0, ei, i2, i3⟩ := nn_of H62 (by omega)
                      obtain ⟨j0, ej, j2, j3⟩ := nn_of H67 (by omega)
                      rw [q2, i2] at k1
                      rw [q2, j2] at k2
                      have b1 : i0 + q ≤ 40 := by omega
                      have b2 : j0 + q ≤ 40 := by omega
                      have hfin : (f_copy S (nI a) i (nI b) j z).2 = setA S 50 (fb_put (S 50) (fun k => S 50 (40 * a + i0 + k)) (40 * b + j0) q) := by simp [f_copy, ta, tb, q3, i3, j3, H4, H11, H23, H32, H50, H58, H62, H67, H84, H102]
                      have hf1 : (f_copy S (nI a) i (nI b) j z).1 = z := by simp [f_copy, ta, tb, H4, H11, H23, H32, H50, H58, H62, H67, H84, H102]
                      rw [hfin, hf1]
                      subst eq; subst ei; subst ej
                      refine px_iconst (v := 0) dX12_copy_108 (by decide) ?_
                      refine px_istore_6 dX12_copy_109 (by decide) rfl ?_
                      refine lp_cp1_0 G m h0 _ a i0 b j0 q ha hb b1 b2 _ ?_
                      refine px_iconst (v := 0) dX12_copy_145 (by decide) ?_
                      refine px_istore_6 dX12_copy_146 (by decide) rfl ?_
                      refine lp_cp2_0 G m h0 _ a i0 b j0 q ha hb b1 b2 _ ?_
                      refine px_iload dX12_copy_183 rfl ?_
                      refine px_iretI dX12_copy_185 rfl ?_
                      exact ⟨rfl, f_copy_ok⟩
                    · skip
                      rw [lcmp_gt, l_add, Int32.toInt_toInt64] at H102
                      refine px_bipush (v := (-12)) dX12_copy_105 (by decide) ?_
                      refine px_iretI dX12_copy_107 rfl ?_
                      exact ⟨by simp [f_copy, *], fr_eq (by simp [f_copy, *])⟩
          · skip
            refine px_bipush (v := (-13)) dX12_copy_53 (by decide) ?_
            refine px_iretI dX12_copy_55 rfl ?_
            exact ⟨by simp [f_copy, *], fr_eq (by simp [f_copy, *])⟩
        · skip
          refine px_bipush (v := (-11)) dX12_copy_35 (by decide) ?_
          refine px_iretI dX12_copy_37 rfl ?_
          exact ⟨by simp [f_copy, *], fr_eq (by simp [f_copy, *])⟩
    · skip
      refine px_bipush (v := (-2)) dX12_copy_14 (by decide) ?_
      refine px_iretI dX12_copy_16 rfl ?_
      exact ⟨by simp [f_copy, *], fr_eq (by simp [f_copy, *])⟩
