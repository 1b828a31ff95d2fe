/-! THE LAW: its start, its loop -/
theorem atx_00 : ATX S00 1 := fun j hj w hw => by
  obtain rfl : j = 0 := by omega
  refine ⟨?_, fun e => absurd rfl e⟩
  have t0 : TXC S00 0 0 [(1, 0)] := ⟨0, 1, 3, rfl, by decide, fun _ => rfl, fun e => absurd rfl e, rfl, rfl, by decide, fun k hk => by
    obtain rfl : k = 0 := by have : k < 1 := hk; omega
    exact ⟨rfl, Or.inl ⟨rfl, by show ¬ (0 : Int32) < 0; decide⟩⟩, WE_1.nil⟩
  have t1 : TXC S00 0 1 [(2, 1)] := ⟨1, 2, 3, rfl, by decide, fun e => absurd e (by decide), fun _ => rfl, rfl, rfl, by decide, fun k hk => by
    obtain rfl : k = 0 := by have : k < 1 := hk; omega
    refine ⟨by show (-2 : Int32) = enc 2 1; decide, Or.inr (Or.inl ⟨rfl, 1, by decide, rfl⟩)⟩, (WE_2 ⟨1, by decide, rfl⟩).nil⟩
  have t2 : TXC S00 0 2 [(2, 2)] := ⟨2, 3, 3, rfl, by decide, fun e => absurd e (by decide), fun _ => rfl, rfl, rfl, by decide, fun k hk => by
    obtain rfl : k = 0 := by have : k < 1 := hk; omega
    refine ⟨by show (-3 : Int32) = enc 2 2; decide, Or.inr (Or.inl ⟨rfl, 2, by decide, rfl⟩)⟩, (WE_2 ⟨2, by decide, rfl⟩).nil⟩
  rcases (by omega : w = 0 ∨ w = 1 ∨ w = 2) with rfl | rfl | rfl
  · exact t0
  · exact t1
  · exact t2
theorem g48_4 {s : Nat} (hs : s < 4) : S00 48 s = -1 := by
  rcases (by omega : s = 0 ∨ s = 1 ∨ s = 2 ∨ s = 3) with rfl | rfl | rfl | rfl <;> rfl
theorem inv_00 : INV S00 0 1 99 := by
  refine ⟨0, 0, 0, 0, 0, 0, ⟨rfl, by decide⟩, ⟨rfl, by decide⟩, ⟨rfl, by decide, by decide⟩, ⟨rfl, by decide, rfl⟩, ⟨rfl, by decide, fun i => by show (0 : Int32).toInt8.toInt32 = 0; decide⟩, ⟨fun i _ => ⟨0, by decide, rfl⟩, fun i _ => ⟨0, by decide, rfl⟩, fun i _ => ⟨0, by decide, rfl⟩⟩, fun i _ => ⟨⟨0, by decide, rfl⟩, 0, by decide, rfl⟩, fun c hc => absurd hc (Nat.not_lt_zero c), atx_00, fun c _ _ => ⟨rfl, rfl, rfl, rfl, rfl, rfl⟩, fun i _ => ⟨Or.inl rfl, Or.inl rfl, ⟨0, by decide, rfl⟩, 0, by decide, rfl⟩, ⟨rfl, by decide, rfl, by decide, rfl, by decide, fun v _ => ⟨0, by decide, rfl⟩⟩, fun s hs => ⟨Or.inl (g48_4 hs), 0, by decide, rfl, fun e => absurd (g48_4 hs) e⟩⟩
theorem agr_rf {S : MS} : agr S S := ⟨fun _ _ => rfl, rfl, rfl, fun _ _ => ⟨rfl, rfl⟩, fun _ _ => rfl⟩
set_option maxHeartbeats 1000000 in
set_option maxRecDepth 100000 in
theorem law_loop (G : Gt) (rm x : Nat) (hL : gA G 8 ≤ 384) : ∀ (kk i : Nat) (Q : Qt) (S : MS) (h : Ht), BP G rm Q S h → Q.1 0 0 = x → INV S Q.2.1 Q.2.2 (99 + 100 * i) → (i ≤ 390 ∧ gA G 8 < i + 6 * kk + 6) → AX G 60 YL 18 [some (.ref (gA G 7)), some (.ref x), some (.ref rm), some (.int (nI i))] [] h (5 * kk) (333 * kk) (fun r _ => r = some (.int 1)) := by
  intro kk
  induction kk with
  | zero =>
    intro i Q S h hp hx hI ⟨hi, hk⟩
    refine ax_iload_n dL_law_18 rfl rfl ?_
    refine ax_aload_n dL_law_19 rfl rfl ?_
    refine ax_clen (v := nI (gA G 8)) dL_law_20 (fun U hU => hU.c.2.2.2.2.2.2.2.2) rfl ?_
    refine ax_bipush (v := 6) dL_law_21 rfl ?_
    refine ax_isub dL_law_23 ?_
    have e24 : (nI (gA G 8) - 6).toInt = (gA G 8 : Int) - 6 := pk_sub_toInt (b := 6) (by omega) (by decide)
    have e3 : (nI i).toInt = (i : Int) := nI_toInt' (by omega)
    refine ax_icmp_gt (tgt := 1110) dL_law_24 (by decide) (fun H => ?_) (fun H => ?_)
    · refine ax_iconst (v := 1) dL_law_1110 rfl ?_
      exact ax_ireturn dL_law_1111 rfl rfl rfl
    rw [i_lt, e24, e3] at H
    omega
  | succ kk ih =>
    intro i Q S h hp hx hI ⟨hi, hk⟩
    refine ax_iload_n dL_law_18 rfl rfl ?_
    refine ax_aload_n dL_law_19 rfl rfl ?_
    refine ax_clen (v := nI (gA G 8)) dL_law_20 (fun U hU => hU.c.2.2.2.2.2.2.2.2) rfl ?_
    refine ax_bipush (v := 6) dL_law_21 rfl ?_
    refine ax_isub dL_law_23 ?_
    have e24 : (nI (gA G 8) - 6).toInt = (gA G 8 : Int) - 6 := pk_sub_toInt (b := 6) (by omega) (by decide)
    have e3 : (nI i).toInt = (i : Int) := nI_toInt' (by omega)
    refine ax_icmp_gt (tgt := 1110) dL_law_24 (by decide) (fun H => ?_) (fun H => ?_)
    · refine ax_iconst (v := 1) dL_law_1110 rfl ?_
      exact ax_ireturn dL_law_1111 rfl rfl rfl
    rw [i_lt, e24, e3] at H
    have hi6 : i + 6 ≤ gA G 8 := by omega
    refine ax_aload_n dL_law_27 rfl rfl ?_
    refine ax_iload_n dL_law_28 rfl rfl ?_
    refine ly_x dL_law_29 (j := i) (by omega) hL rfl ?_
    refine ax_bipush (v := 31) dL_law_30 rfl ?_
    refine ax_iand dL_law_32 ?_
    have K : ∀ (Q' : Qt) (S' : MS) (h' : Ht), BP G rm Q' S' h' → Q'.1 0 0 = x → INV S' Q'.2.1 Q'.2.2 (99 + 100 * i + 100) → AX G 60 YL 1104 [some (.ref (gA G 7)), some (.ref x), some (.ref rm), some (.int (nI i))] [] h' (5 * kk) (333 * kk) (fun r _ => r = some (.int 1)) := fun Q' S' h' k1 k2 k3 => by
      refine ax_iinc_0 (i := 3) (x := nI i) (v := 6) dL_law_1104 rfl rfl (by decide) (fun j o hj ho => ?_) ?_
      · obtain rfl : j = 2 := by omega
        cases ho
        rfl
      refine ax_goto (tgt := 18) dL_law_1107 (by decide) ?_
      rw [show nI i + 6 = nI (i + 6) from nI_add ..]
      exact ih (i + 6) Q' S' h' k1 k2 (INV.go k3 (by omega) agr_rf) (by omega)
    refine ax_budget (mc' := 5 + 5 * kk) (ms' := 333 + 333 * kk) (by omega) (by omega) ?_
    rcases sw_0_27 (xs G i &&& 31) with H | H | H | H | H | H | H | H | H | H | H | H | H | H | H | H | H | H | H | H | H | H | H | H | H | H | H | H | H
    · refine ax_tableIn (off := 127) (tgt := 160) dL_law_33 (by rw [H]; decide) (by rw [H]; decide) (by rw [H]; rfl) (by decide) ?_
      exact law_hank G rm x i _ _ (99 + 100 * i) Q S h _ hi6 hL (by omega) (by omega) hx hp hI K
    · refine ax_tableIn (off := 170) (tgt := 203) dL_law_33 (by rw [H]; decide) (by rw [H]; decide) (by rw [H]; rfl) (by decide) ?_
      exact law_ounces G rm x i _ _ (99 + 100 * i) Q S h _ hi6 hL (by omega) (by omega) hx hp hI K
    · refine ax_tableIn (off := 203) (tgt := 236) dL_law_33 (by rw [H]; decide) (by rw [H]; decide) (by rw [H]; rfl) (by decide) ?_
      exact law_fade G rm x i _ _ (99 + 100 * i) Q S h _ hi6 hL (by omega) (by omega) hx hp hI K
    · refine ax_tableIn (off := 236) (tgt := 269) dL_law_33 (by rw [H]; decide) (by rw [H]; decide) (by rw [H]; rfl) (by decide) ?_
      exact law_coat G rm x i _ _ (99 + 100 * i) Q S h _ hi6 hL (by omega) (by omega) hx hp hI K
    · refine ax_tableIn (off := 279) (tgt := 312) dL_law_33 (by rw [H]; decide) (by rw [H]; decide) (by rw [H]; rfl) (by decide) ?_
      exact law_told G rm x i _ _ (99 + 100 * i) Q S h _ hi6 hL (by omega) (by omega) hx hp hI K
    · refine ax_tableIn (off := 312) (tgt := 345) dL_law_33 (by rw [H]; decide) (by rw [H]; decide) (by rw [H]; rfl) (by decide) ?_
      exact law_hankTold G rm x i _ _ (99 + 100 * i) Q S h _ hi6 hL (by omega) (by omega) hx hp hI K
    · refine ax_tableIn (off := 345) (tgt := 378) dL_law_33 (by rw [H]; decide) (by rw [H]; decide) (by rw [H]; rfl) (by decide) ?_
      exact law_feed G rm x i _ _ (99 + 100 * i) Q S h _ hi6 hL (by omega) (by omega) hx hp hI K
    · refine ax_tableIn (off := 408) (tgt := 441) dL_law_33 (by rw [H]; decide) (by rw [H]; decide) (by rw [H]; rfl) (by decide) ?_
      exact law_text G rm x i _ _ (99 + 100 * i) Q S h _ hi6 hL (by omega) (by omega) hx hp hI K
    · refine ax_tableIn (off := 421) (tgt := 454) dL_law_33 (by rw [H]; decide) (by rw [H]; decide) (by rw [H]; rfl) (by decide) ?_
      exact law_force G rm x i _ _ (99 + 100 * i) Q S h _ hi6 hL (by omega) (by omega) hx hp hI K
    · refine ax_tableIn (off := 444) (tgt := 477) dL_law_33 (by rw [H]; decide) (by rw [H]; decide) (by rw [H]; rfl) (by decide) ?_
      exact law_seen G rm x i _ _ (99 + 100 * i) Q S h _ hi6 hL (by omega) (by omega) hx hp hI K
    · refine ax_tableIn (off := 477) (tgt := 510) dL_law_33 (by rw [H]; decide) (by rw [H]; decide) (by rw [H]; rfl) (by decide) ?_
      exact law_mayMeet G rm x i _ _ (99 + 100 * i) Q S h _ hi6 hL (by omega) (by omega) hx hp hI K
    · refine ax_tableIn (off := 520) (tgt := 553) dL_law_33 (by rw [H]; decide) (by rw [H]; decide) (by rw [H]; rfl) (by decide) ?_
      exact law_between G rm x i _ _ (99 + 100 * i) Q S h _ hi6 hL (by omega) (by omega) hx hp hI K
    · refine ax_tableIn (off := 563) (tgt := 596) dL_law_33 (by rw [H]; decide) (by rw [H]; decide) (by rw [H]; rfl) (by decide) ?_
      exact law_range G rm x i _ _ (99 + 100 * i) Q S h _ hi6 hL (by omega) (by omega) hx hp hI K
    · refine ax_tableIn (off := 586) (tgt := 619) dL_law_33 (by rw [H]; decide) (by rw [H]; decide) (by rw [H]; rfl) (by decide) ?_
      exact law_judge G rm x i _ _ (99 + 100 * i) Q S h _ hi6 hL (by omega) (by omega) hx hp hI K
    · refine ax_tableIn (off := 619) (tgt := 652) dL_law_33 (by rw [H]; decide) (by rw [H]; decide) (by rw [H]; rfl) (by decide) ?_
      exact law_can G rm x i _ _ (99 + 100 * i) Q S h _ hi6 hL (by omega) (by omega) hx hp hI K
    · refine ax_tableIn (off := 652) (tgt := 685) dL_law_33 (by rw [H]; decide) (by rw [H]; decide) (by rw [H]; rfl) (by decide) ?_
      exact law_knit G rm x i _ _ (99 + 100 * i) Q S h _ hi6 hL (by omega) (by omega) hx hp hI K
    · refine ax_tableIn (off := 695) (tgt := 728) dL_law_33 (by rw [H]; decide) (by rw [H]; decide) (by rw [H]; rfl) (by decide) ?_
      exact law_undo G rm x i _ _ (99 + 100 * i) Q S h _ hi6 hL (by omega) (by omega) hx hp hI K
    · refine ax_tableIn (off := 718) (tgt := 751) dL_law_33 (by rw [H]; decide) (by rw [H]; decide) (by rw [H]; rfl) (by decide) ?_
      exact law_most G rm x i _ _ (99 + 100 * i) Q S h _ hi6 hL (by omega) (by omega) hx hp hI K
    · refine ax_tableIn (off := 741) (tgt := 774) dL_law_33 (by rw [H]; decide) (by rw [H]; decide) (by rw [H]; rfl) (by decide) ?_
      exact law_more G rm x i _ _ (99 + 100 * i) Q S h _ hi6 hL (by omega) (by omega) hx hp hI K
    · refine ax_tableIn (off := 764) (tgt := 797) dL_law_33 (by rw [H]; decide) (by rw [H]; decide) (by rw [H]; rfl) (by decide) ?_
      exact law_late G rm x i _ _ (99 + 100 * i) Q S h _ hi6 hL (by omega) (by omega) hx hp hI K
    · refine ax_tableIn (off := 787) (tgt := 820) dL_law_33 (by rw [H]; decide) (by rw [H]; decide) (by rw [H]; rfl) (by decide) ?_
      exact law_image G rm x i _ _ (99 + 100 * i) Q S h _ hi6 hL (by omega) (by omega) hx hp hI K
    · refine ax_tableIn (off := 800) (tgt := 833) dL_law_33 (by rw [H]; decide) (by rw [H]; decide) (by rw [H]; rfl) (by decide) ?_
      exact law_back G rm x i _ _ (99 + 100 * i) Q S h _ hi6 hL (by omega) (by omega) hx hp hI K
    · refine ax_tableIn (off := 813) (tgt := 846) dL_law_33 (by rw [H]; decide) (by rw [H]; decide) (by rw [H]; rfl) (by decide) ?_
      exact law_count G rm x i _ _ (99 + 100 * i) Q S h _ hi6 hL (by omega) (by omega) hx hp hI K
    · refine ax_tableIn (off := 836) (tgt := 869) dL_law_33 (by rw [H]; decide) (by rw [H]; decide) (by rw [H]; rfl) (by decide) ?_
      exact law_sheet G rm x i _ _ (99 + 100 * i) Q S h _ hi6 hL (by omega) (by omega) hx hp hI K
    · refine ax_tableIn (off := 879) (tgt := 912) dL_law_33 (by rw [H]; decide) (by rw [H]; decide) (by rw [H]; rfl) (by decide) ?_
      exact law_cell G rm x i _ _ (99 + 100 * i) Q S h _ hi6 hL (by omega) (by omega) hx hp hI K
    · refine ax_tableIn (off := 922) (tgt := 955) dL_law_33 (by rw [H]; decide) (by rw [H]; decide) (by rw [H]; rfl) (by decide) ?_
      exact law_copy G rm x i _ _ (99 + 100 * i) Q S h _ hi6 hL (by omega) (by omega) hx hp hI K
    · refine ax_tableIn (off := 985) (tgt := 1018) dL_law_33 (by rw [H]; decide) (by rw [H]; decide) (by rw [H]; rfl) (by decide) ?_
      exact law_hanks G rm x i _ _ (99 + 100 * i) Q S h _ hi6 hL (by omega) (by omega) hx hp hI K
    · refine ax_tableIn (off := 1038) (tgt := 1071) dL_law_33 (by rw [H]; decide) (by rw [H]; decide) (by rw [H]; rfl) (by decide) ?_
      exact law_taken G rm x i _ _ (99 + 100 * i) Q S h _ hi6 hL (by omega) (by omega) hx hp hI K
    · refine ax_tableOut (tgt := 1104) dL_law_33 H (by decide) ?_
      exact ax_budget (Nat.le_add_left _ _) (Nat.le_add_left _ _) (K Q S h hp hx (INV.go hI (by omega) agr_rf))
theorem bp_new {G : Gt} {rm : Nat} {M : Nat → va_E} {Q : Qt} {S : MS} {h : Ht} (hc : CPic G (fun _ => False) M Q S h) (hm : MPic G rm h S h) (hlt : ∀ k i, i < lim Q k → Q.1 k i < rm) : BP G rm Q S h := by
  obtain ⟨p1, p2, p3, p4, p5⟩ := hc
  have := hm.2.1
  exact ⟨⟨fun k i hl => ⟨(p1 k i hl).1, (p1 k i hl).2.1, fun w => by have := hlt k i hl; have := w.1; omega⟩, p2, p3, ⟨fun a ha => by have := ha.2; omega, p4.2⟩, fun _ _ => rfl⟩, hm⟩
set_option maxHeartbeats 1000000 in
set_option maxRecDepth 100000 in
theorem law_ax (G : Gt) (h : Ht) (hB : gB G ≤ h.1) (hL : gA G 8 ≤ 384) : AX G 60 YL 0 [some (.ref (gA G 7)), none, none, none] [] h 396 25448 (fun r _ => r = some (.int 1)) := by
  refine ax_new' (mc1 := 395) (ms1 := 25432) dL_law_0 nL_7 (by decide) (by decide) ?_
  refine ax_dup dL_law_3 rfl ?_
  have l0 : LPC G h.1 h.2 [] h := ⟨hB, rfl, fun _ _ => rfl, fun j e hj => by cases hj⟩
  have l1 := l0.push (e := .inr (11, [.null, .null, .int 0, .null, .null, .int 0, .null, .int 0, .null, .null, .int 0, .int 0, .int 0, .null, .null, .null]))
  refine ax_budget (mc' := 45 + 350) (ms' := 774 + 24658) (by decide) (by decide) (ax_callI dL_law_4 lL_9 (av := []) rfl rfl (by decide) (Nat.le_of_ble_eq_true rfl) (c_X11_init G h.1 h.2 _ l1) (fun r h1 hq => ?_))
  obtain ⟨S9, l2, rfl, e9⟩ := hq
  subst e9
  have l2 : LPC G h.1 h.2 (LC0 G h.1) h1 := l2
  have hC := new_C (M0 := h.2) l2
  have e1 : h1.1 = h.1 + 46 := l2.2.1
  refine ax_astore_n1' dL_law_7 (by decide) rfl ?_
  refine ax_new' (mc1 := 349) (ms1 := 24606) dL_law_8 nL_10 (by decide) (by decide) ?_
  refine ax_dup dL_law_11 rfl ?_
  have m0 : LPC G h1.1 h1.2 [] h1 := ⟨by omega, rfl, fun _ _ => rfl, fun j e hj => by cases hj⟩
  have m1 := m0.push (e := .inr (12, [.int 0, .int 0, .null, .null, .null, .null, .int 0, .null, .null, .null, .null, .null, .null, .null, .null, .int 0, .int 0, .int 0, .null, .null, .null, .int 0, .int 0, .int 0, .int 0, .int 0, .int 0, .int 0, .null, .null, .null, .null, .int 0, .int 0, .int 0, .null, .int 0, .int 0, .int 0, .int 0, .int 0, .int 0, .int 0, .null, .null, .null, .null, .null, .null, .null, .null, .null]))
  refine ax_budget (mc' := 29 + 320) (ms' := 3294 + 21312) (by decide) (by decide) (ax_callI dL_law_12 lL_12 (av := []) rfl rfl (by decide) (Nat.le_of_ble_eq_true rfl) (c_X12_init G h1.1 h1.2 _ m1) (fun r h2 hq => ?_))
  obtain ⟨S9, m2, rfl, e9⟩ := hq
  subst e9
  have m2 : LPC G h1.1 h1.2 (LM0 G h1.1) h2 := m2
  have hM := new_M m2
  have e2 : h2.1 = h1.1 + 30 := m2.2.1
  have hC2 := hC.grow (h' := h2) (by omega) m2.2.2.1
  refine ax_astore_n2' dL_law_15 (by decide) rfl ?_
  refine ax_iconst (v := 0) dL_law_16 rfl ?_
  refine ax_istore_n3' dL_law_17 (by decide) rfl ?_
  exact law_loop G h1.1 h.1 hL 64 0 (Q00 h.1) S00 h2 (bp_new hC2 hM (fun k i hl => (hC.1 k i hl).2.1)) rfl inv_00 ⟨by decide, by omega⟩
