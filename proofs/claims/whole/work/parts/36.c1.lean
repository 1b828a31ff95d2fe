/-! THE CLASS: statics, Math, coats, wool -/
def jMax (a b : Int32) : Int32 := if a < b then b else a
def jMin (a b : Int32) : Int32 := if b < a then b else a
def hB (x k : Int32) : Int32 := if (x >>> (k &&& 31)) &&& 1 = 1 then 1 else 0
theorem hB_01 (x k : Int32) : hB x k = 0 ∨ hB x k = 1 := by
  unfold hB
  split
  · exact Or.inr rfl
  · exact Or.inl rfl
theorem clamp_held {n g : Int32} (hg : 0 ≤ g) : jMax 0 (jMin n g) = mHeld n g := by
  have h0 : (0 : Int32).toInt = 0 := rfl
  have hg2 := i_le.mp hg
  rw [h0] at hg2
  unfold jMax jMin mHeld
  simp only [i_lt, h0]
  by_cases h1 : g.toInt < n.toInt
  · simp only [if_pos h1]
    by_cases h2 : (0 : Int) < g.toInt
    · rw [if_pos h2, if_neg (by omega)]
    · rw [if_neg h2, if_neg (by omega), i_eq, h0]
      omega
  · simp only [if_neg h1]
    by_cases h2 : (0 : Int) < n.toInt
    · rw [if_pos h2, if_neg (by omega)]
    · rw [if_neg h2]
      by_cases h3 : n.toInt < 0
      · rw [if_pos h3]
      · rw [if_neg h3, i_eq, h0]
        omega
set_option maxHeartbeats 4000000 in
set_option maxRecDepth 100000 in
theorem c_J9_max_7cf53 (G : Gt) (a b : Int32)  : PS G 1 YJ9_max_7cf53 [.int a, .int b] (jMax a b) := by
  refine ps_ofpF (ls := [some (.int a), some (.int b)]) (by decide +kernel) rfl (Nat.le_of_ble_eq_true rfl) (fun h => ?_)
  refine px_iload_n dJ9_max_7cf53_0 rfl rfl ?_
  refine px_iload_n dJ9_max_7cf53_1 rfl rfl ?_
  refine px_icmp_lt (tgt := 9) dJ9_max_7cf53_2 (by decide) (fun H2 => ?_) (fun H2 => ?_)
  · skip
    refine px_iload_n dJ9_max_7cf53_9 rfl rfl ?_
    refine px_iretI dJ9_max_7cf53_10 rfl ?_
    exact ⟨by first | rfl | (simp [jMax, *]; done) | (simp_all [jMax]; done), rfl⟩
  · skip
    refine px_iload_n dJ9_max_7cf53_5 rfl rfl ?_
    refine px_goto (tgt := 10) dJ9_max_7cf53_6 (by decide) ?_
    refine px_iretI dJ9_max_7cf53_10 rfl ?_
    exact ⟨by first | rfl | (simp [jMax, *]; done) | (simp_all [jMax]; done), rfl⟩
set_option maxHeartbeats 4000000 in
set_option maxRecDepth 100000 in
theorem c_J9_min_7cf53 (G : Gt) (a b : Int32)  : PS G 1 YJ9_min_7cf53 [.int a, .int b] (jMin a b) := by
  refine ps_ofpF (ls := [some (.int a), some (.int b)]) (by decide +kernel) rfl (Nat.le_of_ble_eq_true rfl) (fun h => ?_)
  refine px_iload_n dJ9_min_7cf53_0 rfl rfl ?_
  refine px_iload_n dJ9_min_7cf53_1 rfl rfl ?_
  refine px_icmp_gt (tgt := 9) dJ9_min_7cf53_2 (by decide) (fun H2 => ?_) (fun H2 => ?_)
  · skip
    refine px_iload_n dJ9_min_7cf53_9 rfl rfl ?_
    refine px_iretI dJ9_min_7cf53_10 rfl ?_
    exact ⟨by first | rfl | (simp [jMin, *]; done) | (simp_all [jMin]; done), rfl⟩
  · skip
    refine px_iload_n dJ9_min_7cf53_5 rfl rfl ?_
    refine px_goto (tgt := 10) dJ9_min_7cf53_6 (by decide) ?_
    refine px_iretI dJ9_min_7cf53_10 rfl ?_
    exact ⟨by first | rfl | (simp [jMin, *]; done) | (simp_all [jMin]; done), rfl⟩
set_option maxHeartbeats 4000000 in
set_option maxRecDepth 100000 in
theorem c_J9_abs_0f7a4 (G : Gt) (a : Int32)  : PS G 1 YJ9_abs_0f7a4 [.int a] (mAbs a) := by
  refine ps_ofpF (ls := [some (.int a)]) (by decide +kernel) rfl (Nat.le_of_ble_eq_true rfl) (fun h => ?_)
  refine px_iload_n dJ9_abs_0f7a4_0 rfl rfl ?_
  refine px_if_ge (tgt := 9) dJ9_abs_0f7a4_1 (by decide) (fun H1 => ?_) (fun H1 => ?_)
  · skip
    refine px_iload_n dJ9_abs_0f7a4_9 rfl rfl ?_
    refine px_iretI dJ9_abs_0f7a4_10 rfl ?_
    exact ⟨by first | rfl | (simp [mAbs, *]; done) | (simp_all [mAbs]; done), rfl⟩
  · skip
    refine px_iload_n dJ9_abs_0f7a4_4 rfl rfl ?_
    refine px_ineg dJ9_abs_0f7a4_5 ?_
    refine px_goto (tgt := 10) dJ9_abs_0f7a4_6 (by decide) ?_
    refine px_iretI dJ9_abs_0f7a4_10 rfl ?_
    exact ⟨by first | rfl | (simp [mAbs, *]; done) | (simp_all [mAbs]; done), rfl⟩
set_option maxHeartbeats 4000000 in
set_option maxRecDepth 100000 in
theorem c_X11_isWithin (G : Gt) (v lo hi : Int32)  : PS G 1 Y11_isWithin [.int v, .int lo, .int hi] (mIn v lo hi) := by
  refine ps_ofp (ls := [some (.int v), some (.int lo), some (.int hi)]) (by decide +kernel) rfl (Nat.le_of_ble_eq_true rfl) (fun h => ?_)
  refine px_iload_n dX11_isWithin_0 rfl rfl ?_
  refine px_iload_n dX11_isWithin_1 rfl rfl ?_
  refine px_icmp_lt (tgt := 14) dX11_isWithin_2 (by decide) (fun H2 => ?_) (fun H2 => ?_)
  · skip
    refine px_iconst (v := 0) dX11_isWithin_14 (by decide) ?_
    refine px_iretZ dX11_isWithin_15 rfl (by first | rfl | decide) ?_
    exact ⟨by first | rfl | (simp [mIn, *]; done) | (simp_all [mIn]; done), rfl⟩
  · skip
    refine px_iload_n dX11_isWithin_5 rfl rfl ?_
    refine px_iload_n dX11_isWithin_6 rfl rfl ?_
    refine px_icmp_gt (tgt := 14) dX11_isWithin_7 (by decide) (fun H7 => ?_) (fun H7 => ?_)
    · skip
      refine px_iconst (v := 0) dX11_isWithin_14 (by decide) ?_
      refine px_iretZ dX11_isWithin_15 rfl (by first | rfl | decide) ?_
      exact ⟨by first | rfl | (simp [mIn, *]; done) | (simp_all [mIn]; done), rfl⟩
    · skip
      refine px_iconst (v := 1) dX11_isWithin_10 (by decide) ?_
      refine px_goto (tgt := 15) dX11_isWithin_11 (by decide) ?_
      refine px_iretZ dX11_isWithin_15 rfl (by first | rfl | decide) ?_
      exact ⟨by first | rfl | (simp [mIn, *]; done) | (simp_all [mIn]; done), rfl⟩
set_option maxHeartbeats 4000000 in
set_option maxRecDepth 100000 in
theorem c_X11_hasBit (G : Gt) (x k : Int32)  : PS G 1 Y11_hasBit [.int x, .int k] (hB x k) := by
  refine ps_ofp (ls := [some (.int x), some (.int k)]) (by decide +kernel) rfl (Nat.le_of_ble_eq_true rfl) (fun h => ?_)
  refine px_iload_n dX11_hasBit_0 rfl rfl ?_
  refine px_iload_n dX11_hasBit_1 rfl rfl ?_
  refine px_ishr dX11_hasBit_2 ?_
  refine px_iconst (v := 1) dX11_hasBit_3 (by decide) ?_
  refine px_iand dX11_hasBit_4 ?_
  refine px_iconst (v := 1) dX11_hasBit_5 (by decide) ?_
  refine px_icmp_ne (tgt := 13) dX11_hasBit_6 (by decide) (fun H6 => ?_) (fun H6 => ?_)
  · skip
    refine px_iconst (v := 0) dX11_hasBit_13 (by decide) ?_
    refine px_iretZ dX11_hasBit_14 rfl (by first | rfl | decide) ?_
    exact ⟨by first | rfl | (simp [hB, *]; done) | (simp_all [hB]; done), rfl⟩
  · skip
    refine px_iconst (v := 1) dX11_hasBit_9 (by decide) ?_
    refine px_goto (tgt := 14) dX11_hasBit_10 (by decide) ?_
    refine px_iretZ dX11_hasBit_14 rfl (by first | rfl | decide) ?_
    exact ⟨by first | rfl | (simp [hB, *]; done) | (simp_all [hB]; done), rfl⟩
set_option maxHeartbeats 4000000 in
set_option maxRecDepth 100000 in
theorem c_X11_clamp (G : Gt) (n g : Int32)  : PS G 2 Y11_clamp [.int n, .int g] (jMax 0 (jMin n g)) := by
  refine ps_ofp (ls := [some (.int n), some (.int g)]) (by decide +kernel) rfl (Nat.le_of_ble_eq_true rfl) (fun h => ?_)
  refine px_iconst (v := 0) dX11_clamp_0 (by decide) ?_
  refine px_iload_n dX11_clamp_1 rfl rfl ?_
  refine px_iload_n dX11_clamp_2 rfl rfl ?_
  refine px_pure2 dX11_clamp_3 lX11_291 (c_J9_min_7cf53 G _ _) (by decide) (Nat.le_of_ble_eq_true rfl) ?_
  refine px_pure2 dX11_clamp_6 lX11_176 (c_J9_max_7cf53 G _ _) (by decide) (Nat.le_of_ble_eq_true rfl) ?_
  refine px_iretI dX11_clamp_9 rfl ?_
  exact ⟨rfl, rfl⟩
set_option maxHeartbeats 4000000 in
set_option maxRecDepth 100000 in
theorem c_X11_isSheet (G : Gt) (s : Int32)  : PS G 2 Y11_isSheet [.int s] (mIn s 0 3) := by
  refine ps_ofp (ls := [some (.int s)]) (by decide +kernel) rfl (Nat.le_of_ble_eq_true rfl) (fun h => ?_)
  refine px_iload_n dX11_isSheet_0 rfl rfl ?_
  refine px_iconst (v := 0) dX11_isSheet_1 (by decide) ?_
  refine px_iconst (v := 3) dX11_isSheet_2 (by decide) ?_
  refine px_pure3 dX11_isSheet_3 lX11_81 (c_X11_isWithin G _ _ _) (by decide) (Nat.le_of_ble_eq_true rfl) ?_
  refine px_iretZ dX11_isSheet_6 rfl (narZ (mIn_01 _ _ _)) ?_
  exact ⟨rfl, rfl⟩
theorem lk_cut {x : Int32} (h1 : ¬ x = 0) (h2 : ¬ x = 1) : Op.lookupswitch.offset #[((0 : Int), (27 : Int)), (1, 30)].toList 33 x.toInt = 33 := by
  rw [i_eq] at h1 h2
  have e1 : (0 : Int32).toInt = 0 := by decide
  have e2 : (1 : Int32).toInt = 1 := by decide
  rw [e1] at h1; rw [e2] at h2
  simp [Op.lookupswitch.offset]
  omega
set_option maxHeartbeats 4000000 in
set_option maxRecDepth 100000 in
theorem c_X11_cutToSort (G : Gt) (s v : Int32)  : PS G 1 Y11_cutToSort [.int s, .int v] (mCut s v) := by
  refine ps_ofp (ls := [some (.int s), some (.int v)]) (by decide +kernel) rfl (Nat.le_of_ble_eq_true rfl) (fun h => ?_)
  refine px_iload_n dX11_cutToSort_0 rfl rfl ?_
  by_cases H1_0 : s = 0
  · refine px_lookup (off := 27) (tgt := 28) dX11_cutToSort_1 (by decide) (by rw [H1_0]; rfl) (by decide) ?_
    refine px_iload_n dX11_cutToSort_28 rfl rfl ?_
    refine px_i2b dX11_cutToSort_29 ?_
    refine px_iretI dX11_cutToSort_30 rfl ?_
    exact ⟨by first | rfl | (simp [mCut, *]; done) | (simp_all [mCut]; done), rfl⟩
  by_cases H1_1 : s = 1
  · refine px_lookup (off := 30) (tgt := 31) dX11_cutToSort_1 (by decide) (by rw [H1_1]; rfl) (by decide) ?_
    refine px_iload_n dX11_cutToSort_31 rfl rfl ?_
    refine px_i2s dX11_cutToSort_32 ?_
    refine px_iretI dX11_cutToSort_33 rfl ?_
    exact ⟨by first | rfl | (simp [mCut, *]; done) | (simp_all [mCut]; done), rfl⟩
  refine px_lookup (off := 33) (tgt := 34) dX11_cutToSort_1 (by decide) (lk_cut ‹_› ‹_›) (by decide) ?_
  refine px_iload_n dX11_cutToSort_34 rfl rfl ?_
  refine px_iretI dX11_cutToSort_35 rfl ?_
  exact ⟨by first | rfl | (simp [mCut, *]; done) | (simp_all [mCut]; done), rfl⟩
def nmN (c : Nat) : String := if c = 2 then RX2 else if c = 8 then RX8 else if c = 1 then RX1 else if c = 0 then RX0 else if c = 6 then RX6 else RX4
def ktN (c : Nat) : u_T := if c = 2 then TX2 else if c = 8 then TX8 else if c = 1 then TX1 else if c = 0 then TX0 else if c = 6 then TX6 else TX4
def tkN (c : Nat) : Yt := if c = 0 then Y0_takes else if c = 4 then Y4_takes else Y2_takes
def beN (c : Nat) : Yt := if c = 8 then Y8_bears else if c = 1 then Y1_bears else if c = 6 then Y6_bears else if c = 4 then Y4_bears else Y2_bears
def brN (c : Nat) : Yt := if c = 8 then Y8_brings else if c = 6 then Y6_brings else if c = 4 then Y4_brings else Y2_brings
theorem kci_p (p : Nat → Prop) (v : Int32) (h2 : p 2) (h8 : p 8) (h1 : p 1) (h0 : p 0) (h6 : p 6) (h4 : p 4) : p (kci v) := by
  unfold kci
  split
  · exact h2
  split
  · exact h8
  split
  · exact h1
  split
  · exact h0
  split
  · exact h6
  · exact h4
theorem vk_cl (v : Int32) : vwCl[kci v]? = some (nmN (kci v), ktN (kci v), 10) := kci_p (fun c => vwCl[c]? = some (nmN c, ktN c, 10)) v rfl rfl rfl rfl rfl rfl
theorem gk_X2_9 (v : Int32) : GF RX2 9 (kci v) 0 .int true := kci_p (fun c => GF RX2 9 c 0 .int true) v gX2_9_2 gX2_9_8 gX2_9_1 gX2_9_0 gX2_9_6 gX2_9_4
theorem gk_X2_15 (v : Int32) : GF RX2 15 (kci v) 1 .int true := kci_p (fun c => GF RX2 15 c 1 .int true) v gX2_15_2 gX2_15_8 gX2_15_1 gX2_15_0 gX2_15_6 gX2_15_4
theorem gk_X2_18 (v : Int32) : GF RX2 18 (kci v) 2 .int true := kci_p (fun c => GF RX2 18 c 2 .int true) v gX2_18_2 gX2_18_8 gX2_18_1 gX2_18_0 gX2_18_6 gX2_18_4
theorem gk_X2_21 (v : Int32) : GF RX2 21 (kci v) 3 .int true := kci_p (fun c => GF RX2 21 c 3 .int true) v gX2_21_2 gX2_21_8 gX2_21_1 gX2_21_0 gX2_21_6 gX2_21_4
theorem gk_X2_28 (v : Int32) : GF RX2 28 (kci v) 4 .boolean false := kci_p (fun c => GF RX2 28 c 4 .boolean false) v gX2_28_2 gX2_28_8 gX2_28_1 gX2_28_0 gX2_28_6 gX2_28_4
theorem gk_X2_32 (v : Int32) : GF RX2 32 (kci v) 5 .int false := kci_p (fun c => GF RX2 32 c 5 .int false) v gX2_32_2 gX2_32_8 gX2_32_1 gX2_32_0 gX2_32_6 gX2_32_4
theorem gk_X2_35 (v : Int32) : GF RX2 35 (kci v) 6 .int false := kci_p (fun c => GF RX2 35 c 6 .int false) v gX2_35_2 gX2_35_8 gX2_35_1 gX2_35_0 gX2_35_6 gX2_35_4
theorem gk_X2_38 (v : Int32) : GF RX2 38 (kci v) 7 .boolean false := kci_p (fun c => GF RX2 38 c 7 .boolean false) v gX2_38_2 gX2_38_8 gX2_38_1 gX2_38_0 gX2_38_6 gX2_38_4
theorem gk_X2_41 (v : Int32) : GF RX2 41 (kci v) 8 .int false := kci_p (fun c => GF RX2 41 c 8 .int false) v gX2_41_2 gX2_41_8 gX2_41_1 gX2_41_0 gX2_41_6 gX2_41_4
theorem gk_X2_44 (v : Int32) : GF RX2 44 (kci v) 9 .int false := kci_p (fun c => GF RX2 44 c 9 .int false) v gX2_44_2 gX2_44_8 gX2_44_1 gX2_44_0 gX2_44_6 gX2_44_4
theorem gk_X5_69 (v : Int32) : GF RX5 69 (kci v) 4 .boolean false := kci_p (fun c => GF RX5 69 c 4 .boolean false) v gX5_69_2 gX5_69_8 gX5_69_1 gX5_69_0 gX5_69_6 gX5_69_4
theorem gk_X9_71 (v : Int32) : GF RX9 71 (kci v) 1 .int true := kci_p (fun c => GF RX9 71 c 1 .int true) v gX9_71_2 gX9_71_8 gX9_71_1 gX9_71_0 gX9_71_6 gX9_71_4
theorem gk_X9_75 (v : Int32) : GF RX9 75 (kci v) 2 .int true := kci_p (fun c => GF RX9 75 c 2 .int true) v gX9_75_2 gX9_75_8 gX9_75_1 gX9_75_0 gX9_75_6 gX9_75_4
theorem gk_X11_110 (v : Int32) : GF RX11 110 (kci v) 0 .int true := kci_p (fun c => GF RX11 110 c 0 .int true) v gX11_110_2 gX11_110_8 gX11_110_1 gX11_110_0 gX11_110_6 gX11_110_4
theorem gk_X11_113 (v : Int32) : GF RX11 113 (kci v) 1 .int true := kci_p (fun c => GF RX11 113 c 1 .int true) v gX11_113_2 gX11_113_8 gX11_113_1 gX11_113_0 gX11_113_6 gX11_113_4
theorem gk_X11_116 (v : Int32) : GF RX11 116 (kci v) 2 .int true := kci_p (fun c => GF RX11 116 c 2 .int true) v gX11_116_2 gX11_116_8 gX11_116_1 gX11_116_0 gX11_116_6 gX11_116_4
theorem gk_X11_130 (v : Int32) : GF RX11 130 (kci v) 4 .boolean false := kci_p (fun c => GF RX11 130 c 4 .boolean false) v gX11_130_2 gX11_130_8 gX11_130_1 gX11_130_0 gX11_130_6 gX11_130_4
theorem gk_X11_209 (v : Int32) : GF RX11 209 (kci v) 5 .int false := kci_p (fun c => GF RX11 209 c 5 .int false) v gX11_209_2 gX11_209_8 gX11_209_1 gX11_209_0 gX11_209_6 gX11_209_4
theorem gk_X11_288 (v : Int32) : GF RX11 288 (kci v) 3 .int true := kci_p (fun c => GF RX11 288 c 3 .int true) v gX11_288_2 gX11_288_8 gX11_288_1 gX11_288_0 gX11_288_6 gX11_288_4
theorem gk_X11_313 (v : Int32) : GF RX11 313 (kci v) 6 .int false := kci_p (fun c => GF RX11 313 c 6 .int false) v gX11_313_2 gX11_313_8 gX11_313_1 gX11_313_0 gX11_313_6 gX11_313_4
theorem ko_X2_24 (v : Int32) : cLLO RX2 (nmN (kci v)) 24 yX2_takes (tkN (kci v)) 1 := kci_p (fun c => cLLO RX2 (nmN c) 24 yX2_takes (tkN c) 1) v lX2_24_2 lX2_24_8 lX2_24_1 lX2_24_0 lX2_24_6 lX2_24_4
theorem ko_X3_39 (v : Int32) : cLLO RX3 (nmN (kci v)) 39 yX2_takes (tkN (kci v)) 1 := kci_p (fun c => cLLO RX3 (nmN c) 39 yX2_takes (tkN c) 1) v lX3_39_2 lX3_39_8 lX3_39_1 lX3_39_0 lX3_39_6 lX3_39_4
theorem ko_X5_62 (v : Int32) : cLLO RX5 (nmN (kci v)) 62 yX2_brings (brN (kci v)) 0 := kci_p (fun c => cLLO RX5 (nmN c) 62 yX2_brings (brN c) 0) v lX5_62_2 lX5_62_8 lX5_62_1 lX5_62_0 lX5_62_6 lX5_62_4
theorem ko_X5_66 (v : Int32) : cLLO RX5 (nmN (kci v)) 66 yX2_takesInAll Y2_takesInAll 0 := kci_p (fun c => cLLO RX5 (nmN c) 66 yX2_takesInAll Y2_takesInAll 0) v lX5_66_2 lX5_66_8 lX5_66_1 lX5_66_0 lX5_66_6 lX5_66_4
theorem ko_X9_60 (v : Int32) : cLLO RX9 (nmN (kci v)) 60 yX2_takes (tkN (kci v)) 1 := kci_p (fun c => cLLO RX9 (nmN c) 60 yX2_takes (tkN c) 1) v lX9_60_2 lX9_60_8 lX9_60_1 lX9_60_0 lX9_60_6 lX9_60_4
theorem ko_X9_68 (v : Int32) : cLLO RX9 (nmN (kci v)) 68 yX2_bears (beN (kci v)) 1 := kci_p (fun c => cLLO RX9 (nmN c) 68 yX2_bears (beN c) 1) v lX9_68_2 lX9_68_8 lX9_68_1 lX9_68_0 lX9_68_6 lX9_68_4
theorem ko_X9_78 (v : Int32) : cLLO RX9 (nmN (kci v)) 78 yX2_takesInAll Y2_takesInAll 0 := kci_p (fun c => cLLO RX9 (nmN c) 78 yX2_takesInAll Y2_takesInAll 0) v lX9_78_2 lX9_78_8 lX9_78_1 lX9_78_0 lX9_78_6 lX9_78_4
theorem ko_X11_102 (v : Int32) : cLLO RX11 (nmN (kci v)) 102 yX2_takes (tkN (kci v)) 1 := kci_p (fun c => cLLO RX11 (nmN c) 102 yX2_takes (tkN c) 1) v lX11_102_2 lX11_102_8 lX11_102_1 lX11_102_0 lX11_102_6 lX11_102_4
theorem ko_X11_119 (v : Int32) : cLLO RX11 (nmN (kci v)) 119 yX2_brings (brN (kci v)) 0 := kci_p (fun c => cLLO RX11 (nmN c) 119 yX2_brings (brN c) 0) v lX11_119_2 lX11_119_8 lX11_119_1 lX11_119_0 lX11_119_6 lX11_119_4
theorem ko_X11_123 (v : Int32) : cLLO RX11 (nmN (kci v)) 123 yX2_takesInAll Y2_takesInAll 0 := kci_p (fun c => cLLO RX11 (nmN c) 123 yX2_takesInAll Y2_takesInAll 0) v lX11_123_2 lX11_123_8 lX11_123_1 lX11_123_0 lX11_123_6 lX11_123_4
theorem ko_X11_205 (v : Int32) : cLLO RX11 (nmN (kci v)) 205 yX2_finish Y2_finish 2 := kci_p (fun c => cLLO RX11 (nmN c) 205 yX2_finish Y2_finish 2) v lX11_205_2 lX11_205_8 lX11_205_1 lX11_205_0 lX11_205_6 lX11_205_4
theorem ko_X11_249 (v : Int32) : cLLO RX11 (nmN (kci v)) 249 yX2_keepImage Y2_keepImage 0 := kci_p (fun c => cLLO RX11 (nmN c) 249 yX2_keepImage Y2_keepImage 0) v lX11_249_2 lX11_249_8 lX11_249_1 lX11_249_0 lX11_249_6 lX11_249_4
theorem ko_X11_256 (v : Int32) : cLLO RX11 (nmN (kci v)) 256 yX2_layBack Y2_layBack 0 := kci_p (fun c => cLLO RX11 (nmN c) 256 yX2_layBack Y2_layBack 0) v lX11_256_2 lX11_256_8 lX11_256_1 lX11_256_0 lX11_256_6 lX11_256_4
set_option maxHeartbeats 4000000 in
set_option maxRecDepth 100000 in
theorem c_X2_takes (G : Gt) (m : Nat → Prop) (M0 : Nat → va_E) (Q : Qt) (S : MS) (i : Nat) (p : Int32) {d : Nat} (hc : i < Q.2.1) : PC G (CPic G m M0 Q) d Y2_takes [.ref (Q.1 33 i), .int p] S 0 0 (ri (fun x S' => x = mPl S i p ∧ S' = S)) := by
  refine pc_of (ls := [some (.ref (Q.1 33 i)), some (.int p)]) (by decide +kernel) rfl (Nat.le_of_ble_eq_true rfl) ?_
  refine px_iload_n dX2_takes_0 rfl rfl ?_
  refine px_iconst (v := 2) dX2_takes_1 (by decide) ?_
  refine px_icmp_ge (tgt := 12) dX2_takes_2 (by decide) (fun H2 => ?_) (fun H2 => ?_)
  · skip
    refine px_iload_n dX2_takes_12 rfl rfl ?_
    refine px_iconst (v := 4) dX2_takes_13 (by decide) ?_
    refine px_icmp_ge (tgt := 26) dX2_takes_14 (by decide) (fun H14 => ?_) (fun H14 => ?_)
    · skip
      refine px_iconst (v := 1) dX2_takes_26 (by decide) ?_
      refine px_iretI dX2_takes_27 rfl ?_
      exact ⟨by first | rfl | (simp [mPl, *]; done) | (simp_all [mPl]; done), rfl⟩
    · skip
      refine px_iconst (v := 2) dX2_takes_17 (by decide) ?_
      refine px_aload_n dX2_takes_18 rfl rfl ?_
      refine cx_get (k := 33) (i := i) (f := 1) dX2_takes_19 (gk_X2_15 _) rfl (show i < Q.2.1 by omega) rfl ?_
      refine px_imul dX2_takes_22 ?_
      refine px_goto (tgt := 27) dX2_takes_23 (by decide) ?_
      refine px_iretI dX2_takes_27 rfl ?_
      exact ⟨by first | rfl | (simp [mPl, *]; done) | (simp_all [mPl]; done), rfl⟩
  · skip
    refine px_aload_n dX2_takes_5 rfl rfl ?_
    refine cx_get (k := 33) (i := i) (f := 1) dX2_takes_6 (gk_X2_15 _) rfl (show i < Q.2.1 by omega) rfl ?_
    refine px_iconst (v := 1) dX2_takes_9 (by decide) ?_
    refine px_iadd dX2_takes_10 ?_
    refine px_iretI dX2_takes_11 rfl ?_
    exact ⟨by first | rfl | (simp [mPl, *]; done) | (simp_all [mPl]; done), rfl⟩
set_option maxHeartbeats 4000000 in
set_option maxRecDepth 100000 in
theorem c_X2_bears (G : Gt) (m : Nat → Prop) (M0 : Nat → va_E) (Q : Qt) (S : MS) (i : Nat) (q : Int32) {d : Nat} (hc : i < Q.2.1) : PC G (CPic G m M0 Q) d Y2_bears [.ref (Q.1 33 i), .int q] S 0 0 (ri (fun x S' => x = mPlB q ∧ S' = S)) := by
  refine pc_of (ls := [some (.ref (Q.1 33 i)), some (.int q)]) (by decide +kernel) rfl (Nat.le_of_ble_eq_true rfl) ?_
  refine px_iload_n dX2_bears_0 rfl rfl ?_
  refine px_if_ne (tgt := 6) dX2_bears_1 (by decide) (fun H1 => ?_) (fun H1 => ?_)
  · skip
    refine px_iload_n dX2_bears_6 rfl rfl ?_
    refine px_iconst (v := 3) dX2_bears_7 (by decide) ?_
    refine px_icmp_ge (tgt := 15) dX2_bears_8 (by decide) (fun H8 => ?_) (fun H8 => ?_)
    · skip
      refine px_iconst (v := 4) dX2_bears_15 (by decide) ?_
      refine px_iretI dX2_bears_16 rfl ?_
      exact ⟨by first | rfl | (simp [mPlB, *]; done) | (simp_all [mPlB]; done), rfl⟩
    · skip
      refine px_iconst (v := 2) dX2_bears_11 (by decide) ?_
      refine px_goto (tgt := 16) dX2_bears_12 (by decide) ?_
      refine px_iretI dX2_bears_16 rfl ?_
      exact ⟨by first | rfl | (simp [mPlB, *]; done) | (simp_all [mPlB]; done), rfl⟩
  · skip
    refine px_iconst (v := 0) dX2_bears_4 (by decide) ?_
    refine px_iretI dX2_bears_5 rfl ?_
    exact ⟨by first | rfl | (simp [mPlB, *]; done) | (simp_all [mPlB]; done), rfl⟩
set_option maxHeartbeats 4000000 in
set_option maxRecDepth 100000 in
theorem c_X2_brings (G : Gt) (m : Nat → Prop) (M0 : Nat → va_E) (Q : Qt) (S : MS) (i : Nat) {d : Nat} (hc : i < Q.2.1) : PC G (CPic G m M0 Q) d Y2_brings [.ref (Q.1 33 i)] S 0 0 (ri (fun x S' => x = S 10 i ∧ S' = S)) := by
  refine pc_of (ls := [some (.ref (Q.1 33 i))]) (by decide +kernel) rfl (Nat.le_of_ble_eq_true rfl) ?_
  refine px_aload_n dX2_brings_0 rfl rfl ?_
  refine cx_get (k := 33) (i := i) (f := 3) dX2_brings_1 (gk_X2_21 _) rfl (show i < Q.2.1 by omega) rfl ?_
  refine px_iretI dX2_brings_4 rfl ?_
  exact ⟨by first | rfl | (simp [*]; done) | (simp_all []; done), rfl⟩
theorem gw_8 {i : Nat} {S : MS} (h : S 7 i = 1 ∨ S 7 i = 4) : GF RX8 11 (kci (S 7 i)) 2 .int true := by
  rcases h with h | h <;> rw [h]
  · exact gX8_11_8
  · exact gX8_11_6
theorem gw_0 {i : Nat} {S : MS} (h : S 7 i = 3) : GF RX0 7 (kci (S 7 i)) 2 .int true := by
  rw [h]; exact gX0_7_0
theorem gw_4 {i : Nat} {S : MS} (h : S 7 i = 5) : GF RX4 24 (kci (S 7 i)) 2 .int true := by
  rw [h]; exact gX4_24_4
theorem gw_6d {i : Nat} {S : MS} (h : S 7 i = 4) : GF RX6 15 (kci (S 7 i)) 4 .boolean false := by
  rw [h]; exact gX6_15_6
theorem gw_6y {i : Nat} {S : MS} (h : S 7 i = 4) : GF RX6 21 (kci (S 7 i)) 6 .int false := by
  rw [h]; exact gX6_21_6
theorem gw_6n {i : Nat} {S : MS} (h : S 7 i = 4) : GF RX6 25 (kci (S 7 i)) 2 .int true := by
  rw [h]; exact gX6_25_6
section CXw
variable {G : Gt} {m : Nat → Prop} {M0 : Nat → va_E} {Q : Qt} {d : Nat} {Y : Yt} {pc : Nat} {ls : List (Option Value)} {st : List Value} {S : MS} {mc ms : Nat} {Post : Option Value → MS → Prop}
theorem cx_callWI1 {d1 index k i ci N : Nat} {fs : List Value} {B C : String} {T : u_T} {Y' : Yt} {v1 : Value} {P : Int32 → MS → Prop} (hd : decode Y.2.1 pc = .ok (.invokespecial index, 3)) (hl : cLLW Y.1.cls index B Y' 1) (he : cE G Q S k i = .inr (ci, fs)) (hlm : i < lim Q k) (hcl : vwCl[ci]? = some (C, T, N)) (hC : PC G (CPic G m M0 Q) d1 Y' [.ref (Q.1 k i), v1] S 0 0 (ri P)) (hdd : d1 + 1 ≤ d) (hcat : (st.map fun v => v.category).sum ≤ 8) (kk : ∀ x S', P x S' → PX G (CPic G m M0 Q) d Y (pc + 3) ls (.int x :: st) S' mc ms Post) : PX G (CPic G m M0 Q) d Y pc ls (v1 :: .ref (Q.1 k i) :: st) S mc ms Post :=
  fun h hp => ax_budget (Nat.le_of_eq (Nat.zero_add mc)) (Nat.le_of_eq (Nat.zero_add ms)) (ax_callW hd hl (hp.1 k i hlm).1 (hp.1 k i hlm).2.1 ((hp.2.2.1 k i hlm).trans he) hcl (av := [v1]) rfl rfl hdd hcat (hC h hp) (fun r h' hq => by obtain ⟨S', hp', x, rfl, hP⟩ := hq; exact kk x S' hP h' hp'))
theorem cx_callWI0 {d1 index k i ci N : Nat} {fs : List Value} {B C : String} {T : u_T} {Y' : Yt} {P : Int32 → MS → Prop} (hd : decode Y.2.1 pc = .ok (.invokespecial index, 3)) (hl : cLLW Y.1.cls index B Y' 0) (he : cE G Q S k i = .inr (ci, fs)) (hlm : i < lim Q k) (hcl : vwCl[ci]? = some (C, T, N)) (hC : PC G (CPic G m M0 Q) d1 Y' [.ref (Q.1 k i)] S 0 0 (ri P)) (hdd : d1 + 1 ≤ d) (hcat : (st.map fun v => v.category).sum ≤ 8) (kk : ∀ x S', P x S' → PX G (CPic G m M0 Q) d Y (pc + 3) ls (.int x :: st) S' mc ms Post) : PX G (CPic G m M0 Q) d Y pc ls (.ref (Q.1 k i) :: st) S mc ms Post :=
  fun h hp => ax_budget (Nat.le_of_eq (Nat.zero_add mc)) (Nat.le_of_eq (Nat.zero_add ms)) (ax_callW hd hl (hp.1 k i hlm).1 (hp.1 k i hlm).2.1 ((hp.2.2.1 k i hlm).trans he) hcl (av := []) rfl rfl hdd hcat (hC h hp) (fun r h' hq => by obtain ⟨S', hp', x, rfl, hP⟩ := hq; exact kk x S' hP h' hp'))
end CXw
set_option maxHeartbeats 4000000 in
set_option maxRecDepth 100000 in
theorem c_X0_takes (G : Gt) (m : Nat → Prop) (M0 : Nat → va_E) (Q : Qt) (S : MS) (i : Nat) (p : Int32) (hc : i < Q.2.1) (hk : S 7 i = 3) : PC G (CPic G m M0 Q) 2 Y0_takes [.ref (Q.1 33 i), .int p] S 0 0 (ri (fun x S' => x = (if (S 9 i >>> (p &&& 31)) &&& 1 = 1 then 0 else mPl S i p) ∧ S' = S)) := by
  refine pc_of (ls := [some (.ref (Q.1 33 i)), some (.int p)]) (by decide +kernel) rfl (Nat.le_of_ble_eq_true rfl) ?_
  refine px_aload_n dX0_takes_0 rfl rfl ?_
  refine cx_get (k := 33) (i := i) (f := 2) dX0_takes_1 (gw_0 hk) rfl (show i < Q.2.1 by omega) rfl ?_
  refine px_iload_n dX0_takes_4 rfl rfl ?_
  refine px_pureN2 dX0_takes_5 lX0_13 (c_X11_hasBit G _ _) (by decide) (Nat.le_of_ble_eq_true rfl) ?_
  refine px_if_eq (tgt := 15) dX0_takes_8 (by decide) (fun H8 => ?_) (fun H8 => ?_)
  · skip
    unfold hB at H8
    refine px_aload_n dX0_takes_15 rfl rfl ?_
    refine px_iload_n dX0_takes_16 rfl rfl ?_
    refine cx_callUI1 (k := 33) (i := i) dX0_takes_17 lX0_19 rfl (show i < Q.2.1 by omega) (vk_cl _) (c_X2_takes G m M0 Q S i _ (d := 1) hc) (by decide) (Nat.le_of_ble_eq_true rfl) (fun x17 S17 Q17 => ?_)
    obtain ⟨rfl, e17⟩ := Q17
    obtain rfl := e17.symm
    refine px_iretI dX0_takes_20 rfl ?_
    exact ⟨by simp_all, rfl⟩
  · skip
    unfold hB at H8
    refine px_iconst (v := 0) dX0_takes_11 (by decide) ?_
    refine px_goto (tgt := 20) dX0_takes_12 (by decide) ?_
    refine px_iretI dX0_takes_20 rfl ?_
    exact ⟨by simp_all, rfl⟩
set_option maxHeartbeats 4000000 in
set_option maxRecDepth 100000 in
theorem c_X4_takes (G : Gt) (m : Nat → Prop) (M0 : Nat → va_E) (Q : Qt) (S : MS) (i : Nat) (p : Int32) (hc : i < Q.2.1) : PC G (CPic G m M0 Q) 2 Y4_takes [.ref (Q.1 33 i), .int p] S 0 0 (ri (fun x S' => x = mPl S i p + 1 ∧ S' = S)) := by
  refine pc_of (ls := [some (.ref (Q.1 33 i)), some (.int p)]) (by decide +kernel) rfl (Nat.le_of_ble_eq_true rfl) ?_
  refine px_aload_n dX4_takes_0 rfl rfl ?_
  refine px_iload_n dX4_takes_1 rfl rfl ?_
  refine cx_callWI1 (k := 33) (i := i) dX4_takes_2 lX4_7 rfl hc (vk_cl _) (c_X2_takes G m M0 Q S i _ (d := 1) hc) (by decide) (Nat.le_of_ble_eq_true rfl) (fun x2 S2 Q2 => ?_)
  obtain ⟨rfl, e2⟩ := Q2
  obtain rfl := e2.symm
  refine px_iconst (v := 1) dX4_takes_5 (by decide) ?_
  refine px_iadd dX4_takes_6 ?_
  refine px_iretI dX4_takes_7 rfl ?_
  exact ⟨by first | rfl | (simp [*]; done) | (simp_all []; done), rfl⟩
set_option maxHeartbeats 4000000 in
set_option maxRecDepth 100000 in
theorem c_X8_bears (G : Gt) (m : Nat → Prop) (M0 : Nat → va_E) (Q : Qt) (S : MS) (i : Nat) (q : Int32) {d : Nat} (hd : 2 ≤ d) (hc : i < Q.2.1) (hk : S 7 i = 1 ∨ S 7 i = 4) : PC G (CPic G m M0 Q) d Y8_bears [.ref (Q.1 33 i), .int q] S 0 0 (ri (fun x S' => x = mPlB q + S 9 i ∧ S' = S)) := by
  refine pc_of (ls := [some (.ref (Q.1 33 i)), some (.int q)]) (by decide +kernel) rfl (Nat.le_of_ble_eq_true rfl) ?_
  refine px_aload_n dX8_bears_0 rfl rfl ?_
  refine px_iload_n dX8_bears_1 rfl rfl ?_
  refine cx_callUI1 (k := 33) (i := i) dX8_bears_2 lX8_7 rfl (show i < Q.2.1 by omega) (vk_cl _) (c_X2_bears G m M0 Q S i _ (d := 1) hc) (by omega) (Nat.le_of_ble_eq_true rfl) (fun x2 S2 Q2 => ?_)
  obtain ⟨rfl, e2⟩ := Q2
  obtain rfl := e2.symm
  refine px_aload_n dX8_bears_5 rfl rfl ?_
  refine cx_get (k := 33) (i := i) (f := 2) dX8_bears_6 (gw_8 hk) rfl (show i < Q.2.1 by omega) rfl ?_
  refine px_iadd dX8_bears_9 ?_
  refine px_iretI dX8_bears_10 rfl ?_
  exact ⟨by first | rfl | (simp [*]; done) | (simp_all []; done), rfl⟩
set_option maxHeartbeats 4000000 in
set_option maxRecDepth 100000 in
theorem c_X8_brings (G : Gt) (m : Nat → Prop) (M0 : Nat → va_E) (Q : Qt) (S : MS) (i : Nat) {d : Nat} (hd : 2 ≤ d) (hc : i < Q.2.1) (hk : S 7 i = 1 ∨ S 7 i = 4) : PC G (CPic G m M0 Q) d Y8_brings [.ref (Q.1 33 i)] S 0 0 (ri (fun x S' => x = S 10 i - S 9 i ∧ S' = S)) := by
  refine pc_of (ls := [some (.ref (Q.1 33 i))]) (by decide +kernel) rfl (Nat.le_of_ble_eq_true rfl) ?_
  refine px_aload_n dX8_brings_0 rfl rfl ?_
  refine cx_callUI0 (k := 33) (i := i) dX8_brings_1 lX8_17 rfl (show i < Q.2.1 by omega) (vk_cl _) (c_X2_brings G m M0 Q S i (d := 1) hc) (by omega) (Nat.le_of_ble_eq_true rfl) (fun x1 S1 Q1 => ?_)
  obtain ⟨rfl, e1⟩ := Q1
  obtain rfl := e1.symm
  refine px_aload_n dX8_brings_4 rfl rfl ?_
  refine cx_get (k := 33) (i := i) (f := 2) dX8_brings_5 (gw_8 hk) rfl (show i < Q.2.1 by omega) rfl ?_
  refine px_isub dX8_brings_8 ?_
  refine px_iretI dX8_brings_9 rfl ?_
  exact ⟨by first | rfl | (simp [*]; done) | (simp_all []; done), rfl⟩
set_option maxHeartbeats 4000000 in
set_option maxRecDepth 100000 in
theorem c_X1_bears (G : Gt) (m : Nat → Prop) (M0 : Nat → va_E) (Q : Qt) (S : MS) (i : Nat) (q : Int32) {d : Nat} (hd : 2 ≤ d) (hc : i < Q.2.1) : PC G (CPic G m M0 Q) d Y1_bears [.ref (Q.1 33 i), .int q] S 0 0 (ri (fun x S' => x = mPlB q + 1 ∧ S' = S)) := by
  refine pc_of (ls := [some (.ref (Q.1 33 i)), some (.int q)]) (by decide +kernel) rfl (Nat.le_of_ble_eq_true rfl) ?_
  refine px_aload_n dX1_bears_0 rfl rfl ?_
  refine px_iload_n dX1_bears_1 rfl rfl ?_
  refine cx_callUI1 (k := 33) (i := i) dX1_bears_2 lX1_7 rfl (show i < Q.2.1 by omega) (vk_cl _) (c_X2_bears G m M0 Q S i _ (d := 1) hc) (by omega) (Nat.le_of_ble_eq_true rfl) (fun x2 S2 Q2 => ?_)
  obtain ⟨rfl, e2⟩ := Q2
  obtain rfl := e2.symm
  refine px_iconst (v := 1) dX1_bears_5 (by decide) ?_
  refine px_iadd dX1_bears_6 ?_
  refine px_iretI dX1_bears_7 rfl ?_
  exact ⟨by first | rfl | (simp [*]; done) | (simp_all []; done), rfl⟩
set_option maxHeartbeats 4000000 in
set_option maxRecDepth 100000 in
theorem c_X6_bears (G : Gt) (m : Nat → Prop) (M0 : Nat → va_E) (Q : Qt) (S : MS) (i : Nat) (q : Int32) (hc : i < Q.2.1) (hk : S 7 i = 4) : PC G (CPic G m M0 Q) 3 Y6_bears [.ref (Q.1 33 i), .int q] S 0 0 (ri (fun x S' => x = (mPlB q + S 9 i) / 2 ∧ S' = S)) := by
  refine pc_of (ls := [some (.ref (Q.1 33 i)), some (.int q)]) (by decide +kernel) rfl (Nat.le_of_ble_eq_true rfl) ?_
  refine px_aload_n dX6_bears_0 rfl rfl ?_
  refine px_iload_n dX6_bears_1 rfl rfl ?_
  refine cx_callUI1 (k := 33) (i := i) dX6_bears_2 lX6_7 rfl (show i < Q.2.1 by omega) (vk_cl _) (c_X8_bears G m M0 Q S i _ (d := 2) (by decide) hc (Or.inr hk)) (by decide) (Nat.le_of_ble_eq_true rfl) (fun x2 S2 Q2 => ?_)
  obtain ⟨rfl, e2⟩ := Q2
  obtain rfl := e2.symm
  refine px_iconst (v := 2) dX6_bears_5 (by decide) ?_
  refine px_idiv dX6_bears_6 (by decide) ?_
  refine px_iretI dX6_bears_7 rfl ?_
  exact ⟨by first | rfl | (simp [*]; done) | (simp_all []; done), rfl⟩
set_option maxHeartbeats 4000000 in
set_option maxRecDepth 100000 in
theorem c_X6_brings (G : Gt) (m : Nat → Prop) (M0 : Nat → va_E) (Q : Qt) (S : MS) (i : Nat) (hc : i < Q.2.1) (hk : S 7 i = 4) : PC G (CPic G m M0 Q) 3 Y6_brings [.ref (Q.1 33 i)] S 0 0 (ri (fun x S' => x = 2 * (S 10 i - S 9 i) ∧ S' = S)) := by
  refine pc_of (ls := [some (.ref (Q.1 33 i))]) (by decide +kernel) rfl (Nat.le_of_ble_eq_true rfl) ?_
  refine px_iconst (v := 2) dX6_brings_0 (by decide) ?_
  refine px_aload_n dX6_brings_1 rfl rfl ?_
  refine cx_callUI0 (k := 33) (i := i) dX6_brings_2 lX6_11 rfl (show i < Q.2.1 by omega) (vk_cl _) (c_X8_brings G m M0 Q S i (d := 2) (by decide) hc (Or.inr hk)) (by decide) (Nat.le_of_ble_eq_true rfl) (fun x2 S2 Q2 => ?_)
  obtain ⟨rfl, e2⟩ := Q2
  obtain rfl := e2.symm
  refine px_imul dX6_brings_5 ?_
  refine px_iretI dX6_brings_6 rfl ?_
  exact ⟨by first | rfl | (simp [*]; done) | (simp_all []; done), rfl⟩
theorem fine_bears (q : Int32) : jMax (mPlB q + 1 - 1) 0 = mPlB q := by
  unfold mPlB
  split
  · decide
  split <;> decide
set_option maxHeartbeats 4000000 in
set_option maxRecDepth 100000 in
theorem c_X4_bears (G : Gt) (m : Nat → Prop) (M0 : Nat → va_E) (Q : Qt) (S : MS) (i : Nat) (q : Int32) (hc : i < Q.2.1) : PC G (CPic G m M0 Q) 3 Y4_bears [.ref (Q.1 33 i), .int q] S 0 0 (ri (fun x S' => x = mPlB q ∧ S' = S)) := by
  refine pc_of (ls := [some (.ref (Q.1 33 i)), some (.int q)]) (by decide +kernel) rfl (Nat.le_of_ble_eq_true rfl) ?_
  refine px_aload_n dX4_bears_0 rfl rfl ?_
  refine px_iload_n dX4_bears_1 rfl rfl ?_
  refine cx_callUI1 (k := 33) (i := i) dX4_bears_2 lX4_11 rfl (show i < Q.2.1 by omega) (vk_cl _) (c_X1_bears G m M0 Q S i _ (d := 2) (by decide) hc) (by decide) (Nat.le_of_ble_eq_true rfl) (fun x2 S2 Q2 => ?_)
  obtain ⟨rfl, e2⟩ := Q2
  obtain rfl := e2.symm
  refine px_iconst (v := 1) dX4_bears_5 (by decide) ?_
  refine px_isub dX4_bears_6 ?_
  refine px_iconst (v := 0) dX4_bears_7 (by decide) ?_
  refine px_pure2 dX4_bears_8 lX4_14 (c_J9_max_7cf53 G _ _) (by decide) (Nat.le_of_ble_eq_true rfl) ?_
  refine px_iretI dX4_bears_11 rfl ?_
  exact ⟨fine_bears q, rfl⟩
set_option maxHeartbeats 4000000 in
set_option maxRecDepth 100000 in
theorem c_X4_brings (G : Gt) (m : Nat → Prop) (M0 : Nat → va_E) (Q : Qt) (S : MS) (i : Nat) (hc : i < Q.2.1) (hk : S 7 i = 5) : PC G (CPic G m M0 Q) 3 Y4_brings [.ref (Q.1 33 i)] S 0 0 (ri (fun x S' => x = S 10 i + S 9 i ∧ S' = S)) := by
  refine pc_of (ls := [some (.ref (Q.1 33 i))]) (by decide +kernel) rfl (Nat.le_of_ble_eq_true rfl) ?_
  refine px_aload_n dX4_brings_0 rfl rfl ?_
  refine cx_callWI0 (k := 33) (i := i) dX4_brings_1 lX4_20 rfl hc (vk_cl _) (c_X2_brings G m M0 Q S i (d := 1) hc) (by decide) (Nat.le_of_ble_eq_true rfl) (fun x1 S1 Q1 => ?_)
  obtain ⟨rfl, e1⟩ := Q1
  obtain rfl := e1.symm
  refine px_aload_n dX4_brings_4 rfl rfl ?_
  refine cx_get (k := 33) (i := i) (f := 2) dX4_brings_5 (gw_4 hk) rfl (show i < Q.2.1 by omega) rfl ?_
  refine px_iadd dX4_brings_8 ?_
  refine px_iretI dX4_brings_9 rfl ?_
  exact ⟨by first | rfl | (simp [*]; done) | (simp_all []; done), rfl⟩
set_option maxHeartbeats 4000000 in
set_option maxRecDepth 100000 in
theorem c_X6_daysLate (G : Gt) (m : Nat → Prop) (M0 : Nat → va_E) (Q : Qt) (S : MS) (i : Nat) (y : Int32) (hc : i < Q.2.1) (hk : S 7 i = 4) : PC G (CPic G m M0 Q) 2 Y6_daysLate [.ref (Q.1 33 i), .int y] S 0 0 (ri (fun x S' => x = jMax ((if S 11 i = 0 then y else S 13 i) - S 9 i) 0 ∧ S' = S)) := by
  refine pc_of (ls := [some (.ref (Q.1 33 i)), some (.int y)]) (by decide +kernel) rfl (Nat.le_of_ble_eq_true rfl) ?_
  refine px_aload_n dX6_daysLate_0 rfl rfl ?_
  refine cx_get (k := 33) (i := i) (f := 4) dX6_daysLate_1 (gw_6d hk) rfl (show i < Q.2.1 by omega) rfl ?_
  refine px_if_eq (tgt := 14) dX6_daysLate_4 (by decide) (fun H4 => ?_) (fun H4 => ?_)
  · skip
    refine px_iload_n dX6_daysLate_14 rfl rfl ?_
    refine px_aload_n dX6_daysLate_15 rfl rfl ?_
    refine cx_get (k := 33) (i := i) (f := 2) dX6_daysLate_16 (gw_6n hk) rfl (show i < Q.2.1 by omega) rfl ?_
    refine px_isub dX6_daysLate_19 ?_
    refine px_iconst (v := 0) dX6_daysLate_20 (by decide) ?_
    refine px_pure2 dX6_daysLate_21 lX6_28 (c_J9_max_7cf53 G _ _) (by decide) (Nat.le_of_ble_eq_true rfl) ?_
    refine px_iretI dX6_daysLate_24 rfl ?_
    exact ⟨by first | rfl | (simp [*]; done) | (simp_all []; done), rfl⟩
  · skip
    refine px_aload_n dX6_daysLate_7 rfl rfl ?_
    refine cx_get (k := 33) (i := i) (f := 6) dX6_daysLate_8 (gw_6y hk) rfl (show i < Q.2.1 by omega) rfl ?_
    refine px_goto (tgt := 15) dX6_daysLate_11 (by decide) ?_
    refine px_aload_n dX6_daysLate_15 rfl rfl ?_
    refine cx_get (k := 33) (i := i) (f := 2) dX6_daysLate_16 (gw_6n hk) rfl (show i < Q.2.1 by omega) rfl ?_
    refine px_isub dX6_daysLate_19 ?_
    refine px_iconst (v := 0) dX6_daysLate_20 (by decide) ?_
    refine px_pure2 dX6_daysLate_21 lX6_28 (c_J9_max_7cf53 G _ _) (by decide) (Nat.le_of_ble_eq_true rfl) ?_
    refine px_iretI dX6_daysLate_24 rfl ?_
    exact ⟨by first | rfl | (simp [*]; done) | (simp_all []; done), rfl⟩
/-- kinds of coats: 0 .. 5 -/
def KO (S : MS) (i : Nat) : Prop := S 7 i = 0 ∨ S 7 i = 1 ∨ S 7 i = 2 ∨ S 7 i = 3 ∨ S 7 i = 4 ∨ S 7 i = 5
set_option maxHeartbeats 4000000 in
set_option maxRecDepth 100000 in
theorem c_takesV (G : Gt) (m : Nat → Prop) (M0 : Nat → va_E) (Q : Qt) (S : MS) (i : Nat) (p : Int32) (hc : i < Q.2.1) (hk : KO S i) : PC G (CPic G m M0 Q) 2 (tkN (kci (S 7 i))) [.ref (Q.1 33 i), .int p] S 0 0 (ri (fun x S' => x = mTk S i p ∧ S' = S)) := by
  rcases hk with h | h | h | h | h | h
  · rw [h]; exact pc_ri (fun x S' hq => ⟨by rw [hq.1]; simp [mTk, h], hq.2⟩) (c_X2_takes G m M0 Q S i p hc)
  · rw [h]; exact pc_ri (fun x S' hq => ⟨by rw [hq.1]; simp [mTk, h], hq.2⟩) (c_X2_takes G m M0 Q S i p hc)
  · rw [h]; exact pc_ri (fun x S' hq => ⟨by rw [hq.1]; simp [mTk, h], hq.2⟩) (c_X2_takes G m M0 Q S i p hc)
  · rw [h]; exact pc_ri (fun x S' hq => ⟨by rw [hq.1]; simp [mTk, h], hq.2⟩) (c_X0_takes G m M0 Q S i p hc h)
  · rw [h]; exact pc_ri (fun x S' hq => ⟨by rw [hq.1]; simp [mTk, h], hq.2⟩) (c_X2_takes G m M0 Q S i p hc)
  · rw [h]; exact pc_ri (fun x S' hq => ⟨by rw [hq.1]; simp [mTk, h], hq.2⟩) (c_X4_takes G m M0 Q S i p hc)
set_option maxHeartbeats 4000000 in
set_option maxRecDepth 100000 in
theorem c_bearsV (G : Gt) (m : Nat → Prop) (M0 : Nat → va_E) (Q : Qt) (S : MS) (i : Nat) (q : Int32) (hc : i < Q.2.1) (hk : KO S i) : PC G (CPic G m M0 Q) 3 (beN (kci (S 7 i))) [.ref (Q.1 33 i), .int q] S 0 0 (ri (fun x S' => x = mBe S i q ∧ S' = S)) := by
  rcases hk with h | h | h | h | h | h
  · rw [h]; exact pc_ri (fun x S' hq => ⟨by rw [hq.1]; simp [mBe, h], hq.2⟩) (c_X2_bears G m M0 Q S i q hc)
  · rw [h]; exact pc_ri (fun x S' hq => ⟨by rw [hq.1]; simp [mBe, h], hq.2⟩) (c_X8_bears G m M0 Q S i q (by decide) hc (Or.inl h))
  · rw [h]; exact pc_ri (fun x S' hq => ⟨by rw [hq.1]; simp [mBe, h], hq.2⟩) (c_X1_bears G m M0 Q S i q (by decide) hc)
  · rw [h]; exact pc_ri (fun x S' hq => ⟨by rw [hq.1]; simp [mBe, h], hq.2⟩) (c_X2_bears G m M0 Q S i q hc)
  · rw [h]; exact pc_ri (fun x S' hq => ⟨by rw [hq.1]; simp [mBe, h], hq.2⟩) (c_X6_bears G m M0 Q S i q hc h)
  · rw [h]; exact pc_ri (fun x S' hq => ⟨by rw [hq.1]; simp [mBe, h], hq.2⟩) (c_X4_bears G m M0 Q S i q hc)
set_option maxHeartbeats 4000000 in
set_option maxRecDepth 100000 in
theorem c_bringsV (G : Gt) (m : Nat → Prop) (M0 : Nat → va_E) (Q : Qt) (S : MS) (i : Nat) (hc : i < Q.2.1) (hk : KO S i) : PC G (CPic G m M0 Q) 3 (brN (kci (S 7 i))) [.ref (Q.1 33 i)] S 0 0 (ri (fun x S' => x = mBr S i ∧ S' = S)) := by
  rcases hk with h | h | h | h | h | h
  · rw [h]; exact pc_ri (fun x S' hq => ⟨by rw [hq.1]; simp [mBr, h], hq.2⟩) (c_X2_brings G m M0 Q S i hc)
  · rw [h]; exact pc_ri (fun x S' hq => ⟨by rw [hq.1]; simp [mBr, h], hq.2⟩) (c_X8_brings G m M0 Q S i (by decide) hc (Or.inl h))
  · rw [h]; exact pc_ri (fun x S' hq => ⟨by rw [hq.1]; simp [mBr, h], hq.2⟩) (c_X2_brings G m M0 Q S i hc)
  · rw [h]; exact pc_ri (fun x S' hq => ⟨by rw [hq.1]; simp [mBr, h], hq.2⟩) (c_X2_brings G m M0 Q S i hc)
  · rw [h]; exact pc_ri (fun x S' hq => ⟨by rw [hq.1]; simp [mBr, h], hq.2⟩) (c_X6_brings G m M0 Q S i hc h)
  · rw [h]; exact pc_ri (fun x S' hq => ⟨by rw [hq.1]; simp [mBr, h], hq.2⟩) (c_X4_brings G m M0 Q S i hc h)
set_option maxHeartbeats 4000000 in
set_option maxRecDepth 100000 in
theorem lp_tkA (G : Gt) (m : Nat → Prop) (M0 : Nat → va_E) (Q : Qt) (S : MS) (i : Nat) (hc : i < Q.2.1) (hk : KO S i) (Post : Option Value → MS → Prop) (K : PX G (CPic G m M0 Q) 3 Y2_takesInAll 23 [some (.ref (Q.1 33 i)), some (.int (mTkS S i 5)), some (.int (nI 5))] [] (S) 0 0 Post) : ∀ (kk p : Nat), p ≤ 5 → 5 + 1 ≤ p + kk → PX G (CPic G m M0 Q) 3 Y2_takesInAll 4 [some (.ref (Q.1 33 i)), some (.int (mTkS S i p)), some (.int (nI p))] [] (S) 0 0 Post := by
  intro kk
  induction kk with
  | zero => intro p h1 h2; omega
  | succ kk ih =>
    intro p h1 h2
    refine px_iload_n dX2_takesInAll_4 rfl rfl ?_
    refine px_iconst (v := 5) dX2_takesInAll_5 (by decide) ?_
    refine px_icmp_ge (tgt := 23) dX2_takesInAll_6 (by decide) (fun H6 => ?_) (fun H6 => ?_)
    · skip
      skip
      have eN : p = 5 := by have := ge_n (a := p) (b := 5) (by omega) (by omega) H6; omega
      rw [eN]
      exact K
    · skip
      skip
      have lN : p < 5 := lt_n (a := p) (b := 5) (by omega) (by omega) H6
      refine px_iload_n dX2_takesInAll_9 rfl rfl ?_
      refine px_aload_n dX2_takesInAll_10 rfl rfl ?_
      refine px_iload_n dX2_takesInAll_11 rfl rfl ?_
      refine cx_callOI1 (k := 33) (i := i) dX2_takesInAll_12 (ko_X2_24 _) rfl (show i < Q.2.1 by omega) (vk_cl _) (c_takesV G m M0 Q S i _ hc hk) (by decide) (Nat.le_of_ble_eq_true rfl) (fun x12 S12 Q12 => ?_)
      obtain ⟨rfl, e12⟩ := Q12
      obtain rfl := e12.symm
      refine px_iadd dX2_takesInAll_15 ?_
      refine px_istore_n1 dX2_takesInAll_16 (by decide) rfl ?_
      refine px_iinc_2 (v := 1) dX2_takesInAll_17 (by decide) (by decide) rfl ?_
      refine px_goto (tgt := 4) dX2_takesInAll_20 (by decide) ?_
      refine px_lw (ls' := [some (.ref (Q.1 33 i)), some (.int (mTkS S i (p + 1))), some (.int (nI (p + 1)))]) ?_ (ih (p + 1) (by omega) (by omega))
      (simp [LW, mTkS, nI_1, *]; done)
set_option maxHeartbeats 4000000 in
set_option maxRecDepth 100000 in
theorem c_X2_takesInAll (G : Gt) (m : Nat → Prop) (M0 : Nat → va_E) (Q : Qt) (S : MS) (i : Nat) (hc : i < Q.2.1) (hk : KO S i) : PC G (CPic G m M0 Q) 3 Y2_takesInAll [.ref (Q.1 33 i)] S 0 0 (ri (fun x S' => x = mTkS S i 5 ∧ S' = S)) := by
  refine pc_of (ls := [some (.ref (Q.1 33 i)), none, none]) (by decide +kernel) rfl (Nat.le_of_ble_eq_true rfl) ?_
  refine px_iconst (v := 0) dX2_takesInAll_0 (by decide) ?_
  refine px_istore_n1 dX2_takesInAll_1 (by decide) rfl ?_
  refine px_iconst (v := 0) dX2_takesInAll_2 (by decide) ?_
  refine px_istore_n2 dX2_takesInAll_3 (by decide) rfl ?_
  refine lp_tkA G m M0 Q S i hc hk _ ?_ 6 0 (by omega) (by omega)
  refine px_iload_n dX2_takesInAll_23 rfl rfl ?_
  refine px_iretI dX2_takesInAll_24 rfl ?_
  exact ⟨rfl, rfl⟩
set_option maxHeartbeats 4000000 in
set_option maxRecDepth 100000 in
theorem c_X2_finish (G : Gt) (m : Nat → Prop) (M0 : Nat → va_E) (Q : Qt) (S : MS) (i : Nat) (p y : Int32) (hc : i < Q.2.1) : PC G (CPic G m M0 Q) 1 Y2_finish [.ref (Q.1 33 i), .int p, .int y] S 0 0 (rv (fun S' => S' = up2 (up2 (up2 S 11 i 1) 12 i p) 13 i y)) := by
  refine pc_of (ls := [some (.ref (Q.1 33 i)), some (.int p), some (.int y)]) (by decide +kernel) rfl (Nat.le_of_ble_eq_true rfl) ?_
  refine px_aload_n dX2_finish_0 rfl rfl ?_
  refine px_iconst (v := 1) dX2_finish_1 (by decide) ?_
  refine cx_put (k := 33) (i := i) (f := 4) (r := 11) (j := i) dX2_finish_2 (gk_X2_28 _) rfl (show i < Q.2.1 by omega) (Nat.le_of_ble_eq_true rfl) (by decide) rfl (cpe_33_4 i _) rfl rfl ?_
  refine px_aload_n dX2_finish_5 rfl rfl ?_
  refine px_iload_n dX2_finish_6 rfl rfl ?_
  refine cx_put (k := 33) (i := i) (f := 5) (r := 12) (j := i) dX2_finish_7 (gk_X2_32 _) rfl (show i < Q.2.1 by omega) (Nat.le_of_ble_eq_true rfl) (by decide) rfl (cpe_33_5 i _) rfl rfl ?_
  refine px_aload_n dX2_finish_10 rfl rfl ?_
  refine px_iload_n dX2_finish_11 rfl rfl ?_
  refine cx_put (k := 33) (i := i) (f := 6) (r := 13) (j := i) dX2_finish_12 (gk_X2_35 _) rfl (show i < Q.2.1 by omega) (Nat.le_of_ble_eq_true rfl) (by decide) rfl (cpe_33_6 i _) rfl rfl ?_
  refine px_return dX2_finish_15 rfl ?_
  exact rfl
set_option maxHeartbeats 4000000 in
set_option maxRecDepth 100000 in
theorem c_X2_keepImage (G : Gt) (m : Nat → Prop) (M0 : Nat → va_E) (Q : Qt) (S : MS) (i : Nat) (hc : i < Q.2.1) (h11 : S 11 i = 0 ∨ S 11 i = 1) : PC G (CPic G m M0 Q) 1 Y2_keepImage [.ref (Q.1 33 i)] S 0 0 (rv (fun S' => S' = up2 (up2 (up2 S 45 i (S 11 i)) 46 i (S 12 i)) 47 i (S 13 i))) := by
  refine pc_of (ls := [some (.ref (Q.1 33 i))]) (by decide +kernel) rfl (Nat.le_of_ble_eq_true rfl) ?_
  refine px_aload_n dX2_keepImage_0 rfl rfl ?_
  refine px_aload_n dX2_keepImage_1 rfl rfl ?_
  refine cx_get (k := 33) (i := i) (f := 4) dX2_keepImage_2 (gk_X2_28 _) rfl (show i < Q.2.1 by omega) rfl ?_
  refine cx_put (k := 33) (i := i) (f := 7) (r := 45) (j := i) dX2_keepImage_5 (gk_X2_38 _) rfl (show i < Q.2.1 by omega) (Nat.le_of_ble_eq_true rfl) (by decide) rfl (cpe_33_7 i _) (narZ h11) (by rcases h11 with e | e <;> rw [e] <;> rfl) ?_
  refine px_aload_n dX2_keepImage_8 rfl rfl ?_
  refine px_aload_n dX2_keepImage_9 rfl rfl ?_
  refine cx_get (k := 33) (i := i) (f := 5) dX2_keepImage_10 (gk_X2_32 _) rfl (show i < Q.2.1 by omega) rfl ?_
  refine cx_put (k := 33) (i := i) (f := 8) (r := 46) (j := i) dX2_keepImage_13 (gk_X2_41 _) rfl (show i < Q.2.1 by omega) (Nat.le_of_ble_eq_true rfl) (by decide) rfl (cpe_33_8 i _) rfl rfl ?_
  refine px_aload_n dX2_keepImage_16 rfl rfl ?_
  refine px_aload_n dX2_keepImage_17 rfl rfl ?_
  refine cx_get (k := 33) (i := i) (f := 6) dX2_keepImage_18 (gk_X2_35 _) rfl (show i < Q.2.1 by omega) rfl ?_
  refine cx_put (k := 33) (i := i) (f := 9) (r := 47) (j := i) dX2_keepImage_21 (gk_X2_44 _) rfl (show i < Q.2.1 by omega) (Nat.le_of_ble_eq_true rfl) (by decide) rfl (cpe_33_9 i _) rfl rfl ?_
  refine px_return dX2_keepImage_24 rfl ?_
  exact rfl
set_option maxHeartbeats 4000000 in
set_option maxRecDepth 100000 in
theorem c_X2_layBack (G : Gt) (m : Nat → Prop) (M0 : Nat → va_E) (Q : Qt) (S : MS) (i : Nat) (hc : i < Q.2.1) (h45 : S 45 i = 0 ∨ S 45 i = 1) : PC G (CPic G m M0 Q) 1 Y2_layBack [.ref (Q.1 33 i)] S 0 0 (rv (fun S' => S' = up2 (up2 (up2 S 11 i (S 45 i)) 12 i (S 46 i)) 13 i (S 47 i))) := by
  refine pc_of (ls := [some (.ref (Q.1 33 i))]) (by decide +kernel) rfl (Nat.le_of_ble_eq_true rfl) ?_
  refine px_aload_n dX2_layBack_0 rfl rfl ?_
  refine px_aload_n dX2_layBack_1 rfl rfl ?_
  refine cx_get (k := 33) (i := i) (f := 7) dX2_layBack_2 (gk_X2_38 _) rfl (show i < Q.2.1 by omega) rfl ?_
  refine cx_put (k := 33) (i := i) (f := 4) (r := 11) (j := i) dX2_layBack_5 (gk_X2_28 _) rfl (show i < Q.2.1 by omega) (Nat.le_of_ble_eq_true rfl) (by decide) rfl (cpe_33_4 i _) (narZ h45) (by rcases h45 with e | e <;> rw [e] <;> rfl) ?_
  refine px_aload_n dX2_layBack_8 rfl rfl ?_
  refine px_aload_n dX2_layBack_9 rfl rfl ?_
  refine cx_get (k := 33) (i := i) (f := 8) dX2_layBack_10 (gk_X2_41 _) rfl (show i < Q.2.1 by omega) rfl ?_
  refine cx_put (k := 33) (i := i) (f := 5) (r := 12) (j := i) dX2_layBack_13 (gk_X2_32 _) rfl (show i < Q.2.1 by omega) (Nat.le_of_ble_eq_true rfl) (by decide) rfl (cpe_33_5 i _) rfl rfl ?_
  refine px_aload_n dX2_layBack_16 rfl rfl ?_
  refine px_aload_n dX2_layBack_17 rfl rfl ?_
  refine cx_get (k := 33) (i := i) (f := 9) dX2_layBack_18 (gk_X2_44 _) rfl (show i < Q.2.1 by omega) rfl ?_
  refine cx_put (k := 33) (i := i) (f := 6) (r := 13) (j := i) dX2_layBack_21 (gk_X2_35 _) rfl (show i < Q.2.1 by omega) (Nat.le_of_ble_eq_true rfl) (by decide) rfl (cpe_33_6 i _) rfl rfl ?_
  refine px_return dX2_layBack_24 rfl ?_
  exact rfl
