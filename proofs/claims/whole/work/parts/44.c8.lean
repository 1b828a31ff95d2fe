/-! THE CLASS: goOn, plan, bound -/
/-- what the planner stands on: hanks, the rule, coats -/
def PH (S : MS) (Q : Qt) (n t : Nat) : Prop := S 1 0 = nI n ∧ n ≤ 6 ∧ TX S Q t ∧ WB S ∧ ∀ c, c < Q.2.1 → KO S c ∧ TKB S c
theorem TKB_k {S T : MS} {c : Nat} (hf : fk S T) (h : TKB S c) : TKB T c := fun k hk => by obtain ⟨a, ha, e⟩ := h k hk; exact ⟨a, ha, by rw [mTk_k hf]; exact e⟩
theorem PH.go {S T : MS} {Q : Qt} {n t : Nat} (h : PH S Q n t) (hf : fk S T) (h1 : T 160 = S 160) (h2 : T (150 + t) = S (150 + t)) (h3 : T (70 + t) = S (70 + t)) : PH T Q n t := ⟨by rw [hf 1 (by decide)]; exact h.1, h.2.1, TX_k h.2.2.1 hf h1 h2 h3, WB_k hf h.2.2.2.1, fun c hc => ⟨KO_k hf (h.2.2.2.2 c hc).1, TKB_k hf (h.2.2.2.2 c hc).2⟩⟩
theorem PH.gG {S T : MS} {Q : Qt} {n t k : Nat} (h : PH S Q n t) (hf : frG k t S T) : PH T Q n t := by
  have h6 := h.2.2.1.2.2.1
  have ht := h.2.2.1.2.1
  exact h.go hf.fk (hf _ (by omega) (by omega) (by omega) (by omega) (by omega)) (hf _ (by omega) (by omega) (by omega) (by omega) (by omega)) (hf _ (by omega) (by omega) (by omega) (by omega) (by omega))
theorem PH.lh {S : MS} {Q : Qt} {n t c : Nat} (h : PH S Q n t) (hc : c < Q.2.1) : LH S Q n t c := ⟨h.1, h.2.1, h.2.2.1, h.2.2.2.1, hc, (h.2.2.2.2 c hc).1⟩
/-- the planner holds the first coats that aren't done -/
def OP (S : MS) (Q : Qt) : Prop := ∀ j, j < 3 → S 67 j = if j < Q.2.1 ∧ S 11 j = 0 then 1 else 0
def gstep (n cn f : Nat) (U : MS) (u : Nat) (o k s : Int32) (c : Nat) (w : W3) : W3 := if hb u c = true ∨ ¬ U 11 c = 0 ∨ (cnF U n c 7776).2.2 = 0 then w else gnF n cn f (setA U 2 (tkF U c (cnF U n c 7776).1.toNatClampNeg 1 5)) (u + 2 ^ c) (10 * o + nI c + 1) (k + 1) (s + mBr U c) w
theorem gnF_s {n cn f : Nat} {U : MS} {u : Nat} {o k s : Int32} {w : W3} : gnF n cn (f + 1) U u o k s w = gnL (gstep n cn f U u o k s) (min cn 3) (bet w o k s) := rfl
theorem gnL_full {n cn f : Nat} {U : MS} {o k s : Int32} : ∀ {c : Nat} {w : W3}, c ≤ 3 → gnL (gstep n cn f U 7 o k s) c w = w
  | 0, w, _ => rfl
  | c + 1, w, h => by
    rw [gnL, gnL_full (by omega)]
    unfold gstep
    rw [if_pos (Or.inl (by rcases (by omega : c = 0 ∨ c = 1 ∨ c = 2) with rfl | rfl | rfl <;> decide))]
theorem fre_7 {u : Nat} (hu : u < 8) (h : fre u = 0) : u = 7 := by
  rcases (by omega : u = 0 ∨ u = 1 ∨ u = 2 ∨ u = 3 ∨ u = 4 ∨ u = 5 ∨ u = 6 ∨ u = 7) with rfl | rfl | rfl | rfl | rfl | rfl | rfl | rfl <;> first | rfl | (exact absurd h (by decide))
theorem fre_s {u c : Nat} (hu : u < 8) (hc : c < 3) (h : ¬ hb u c = true) : fre (u + 2 ^ c) + 1 = fre u := by
  revert h
  rcases (show c = 0 ∨ c = 1 ∨ c = 2 by omega) with rfl | rfl | rfl <;> rcases (show u = 0 ∨ u = 1 ∨ u = 2 ∨ u = 3 ∨ u = 4 ∨ u = 5 ∨ u = 6 ∨ u = 7 by omega) with rfl | rfl | rfl | rfl | rfl | rfl | rfl | rfl <;> decide
theorem hB_b {u c : Nat} (hu : u < 8) (hc : c < 3) : (hB (nI u) (nI c) = 0 ↔ ¬ hb u c = true) := by
  unfold hB
  have h := hb_i hu hc
  by_cases q : hb u c = true
  · rw [if_pos (h.mpr q)]
    simp [q]
  · rw [if_neg (fun e => q (h.mp e))]
    simp [q]
def GNC (G : Gt) (m : Nat → Prop) (M0 : Nat → va_E) (Q : Qt) (n t j : Nat) : Prop := ∀ (S U : MS) (u k : Nat) (o s : Int32) (w : W3), k + j = 3 → u < 8 → fre u = j → PH S Q n t → OP S Q → UR S k U → OB U n → WC S w → PC G (CPic G m M0 Q) (10 + j) Y5_goOn [.ref (Q.1 20 0), .ref (Q.1 28 t), .ref (Q.1 1 0), .int (nI k), .int (nI u), .int o, .int s] S 0 0 (rv (fun S' => frG k t S S' ∧ WC S' (gnF n Q.2.1 (j + 1) U u o (nI k) s w)))
set_option maxHeartbeats 4000000 in
set_option maxRecDepth 100000 in
theorem lp_goOn (G : Gt) (m : Nat → Prop) (M0 : Nat → va_E) (Q : Qt) (S : MS) (n t j u k : Nat) (o s : Int32) (w : W3) (U : MS) (hrec : GNC G m M0 Q n t j) (hkj : k + (j + 1) = 3) (hu : u < 8) (hfre : fre u = j + 1) (hPH : PH S Q n t) (hOP : OP S Q) (hUR : UR S k U) (hOB : OB U n) : ∀ (kk i : Nat) (T : MS), frG k t S T → WC T (gnL (gstep n Q.2.1 (j + 1) U u o (nI k) s) (min i Q.2.1) (bet w o (nI k) s)) → i ≤ 3 → 4 ≤ i + kk → ∀ z8 : Option Value, PX G (CPic G m M0 Q) (10 + (j + 1)) Y5_goOn 38 [some (.ref (Q.1 20 0)), some (.ref (Q.1 28 t)), some (.ref (Q.1 1 0)), some (.int (nI k)), some (.int (nI u)), some (.int o), some (.int s), some (.int (nI i)), z8] [] T 0 0 (rv (fun S' => frG k t S S' ∧ WC S' (gnF n Q.2.1 (j + 1 + 1) U u o (nI k) s w))) := by
  intro kk
  induction kk with
  | zero => intro i T h1 h2 h3 h4; omega
  | succ kk ih =>
    intro i T hf hw hi hk z8
    have hPT := hPH.gG hf
    have ht := hPH.2.2.1.2.1
    have h6 := hPH.2.2.1.2.2.1
    have hn6 := hPH.2.1
    have hUT := hUR.go hf (by omega) (by omega)
    have f67 : T 67 = S 67 := hf 67 (by omega) (by omega) (by omega) (by omega) (by omega)
    refine px_iload dX5_goOn_38 rfl ?_
    refine px_iconst (v := 3) dX5_goOn_40 (by decide) ?_
    refine px_icmp_ge (tgt := 190) dX5_goOn_41 (by decide) (fun H41 => ?_) (fun H41 => ?_)
    · skip
      have e3 : i = 3 := by have := ge_n (a := i) (b := 3) (by omega) (by omega) H41; omega
      subst e3
      refine px_return dX5_goOn_190 rfl ?_
      exact ⟨hf, by rw [gnF_s, Nat.min_comm]; exact hw⟩
    · skip
      have l3 : i < 3 := lt_n (a := i) (b := 3) (by omega) (by omega) H41
      have o3 := hOP i l3
      refine px_aload_n dX5_goOn_44 rfl rfl ?_
      refine cx_get (k := 20) (i := 0) (f := 4) dX5_goOn_45 gX5_20 rfl Nat.one_pos rfl ?_
      refine px_iload dX5_goOn_48 rfl ?_
      by_cases hcc : S 67 i = 1
      · skip
        have hco : i < Q.2.1 ∧ S 11 i = 0 := by
          by_cases q : i < Q.2.1 ∧ S 11 i = 0
          · exact q
          · rw [o3, if_neg q] at hcc; exact absurd hcc (by decide)
        obtain ⟨hc, h11⟩ := hco
        refine cx_aald (k := 21) (i := 0) (i) dX5_goOn_50 rfl Nat.one_pos rfl rfl rfl (by omega) (by decide) (co_pos (by rw [f67]; exact hcc) hc) ?_
        refine px_astore_8 dX5_goOn_51 (by decide) rfl ?_
        refine px_aload dX5_goOn_53 rfl ?_
        refine px_ifnull dX5_goOn_55 ?_
        refine px_iload dX5_goOn_58 rfl ?_
        refine px_iload dX5_goOn_60 rfl ?_
        refine px_pureN2 dX5_goOn_62 lX5_77 (c_X11_hasBit G _ _) (by omega) (Nat.le_of_ble_eq_true rfl) ?_
        refine px_if_eq (tgt := 71) dX5_goOn_65 (by decide) (fun H65 => ?_) (fun H65 => ?_)
        · skip
          rw [hB_b hu l3] at H65
          refine px_aload_n dX5_goOn_71 rfl rfl ?_
          refine cx_get (k := 20) (i := 0) (f := 3) dX5_goOn_72 gX5_12 rfl Nat.one_pos rfl ?_
          refine px_aload dX5_goOn_75 rfl ?_
          refine px_aload_n dX5_goOn_77 rfl rfl ?_
          refine px_aload_n dX5_goOn_78 rfl rfl ?_
          refine px_aload_n dX5_goOn_79 rfl rfl ?_
          refine cx_get (k := 20) (i := 0) (f := 5) dX5_goOn_80 gX5_26 rfl Nat.one_pos rfl ?_
          refine px_iload_n dX5_goOn_83 rfl rfl ?_
          refine cx_aald (k := 22) (i := 0) (k) dX5_goOn_84 rfl Nat.one_pos rfl rfl rfl (by omega) (by decide) rfl ?_
          refine cx_callV4 (k := 13) (i := 1) dX5_goOn_85 lX5_81 rfl (show 1 < 2 by omega) rfl (c_X3_layOut G m M0 Q T 1 n t i 23 k (100 + k) (by decide) (hPT.lh hc) (fun _ => rfl) (show k < 4 by omega) (by omega) (fun j => (ow_100 (by omega) j).1) (by omega)) (by omega) (Nat.le_of_ble_eq_true rfl) (fun S85 Q85 => ?_)
          obtain ⟨f85, L85⟩ := Q85
          have L85 := L85.R hUT hn6
          have g85 : frG k t S S85 := hf.tr (frG.C f85)
          have hTK : TKB U i := fun p hp => by rw [mTk_R hUR]; exact (hPH.2.2.2.2 i hc).2 p hp
          refine px_aload_n dX5_goOn_88 rfl rfl ?_
          refine cx_get (k := 20) (i := 0) (f := 3) dX5_goOn_89 gX5_12 rfl Nat.one_pos rfl ?_
          refine px_iconst (v := 0) dX5_goOn_92 (by decide) ?_
          refine cx_callV1 (k := 13) (i := 1) dX5_goOn_93 lX5_85 rfl (show 1 < 2 by omega) rfl (c_X3_findBest G m M0 Q S85 1 n i U 0 L85 (Or.inl rfl) (by decide) hn6 hTK hOB) (by omega) (Nat.le_of_ble_eq_true rfl) (fun S93 Q93 => ?_)
          obtain ⟨f93, L93, m93⟩ := Q93
          have g93 : frG k t S S93 := g85.tr (frG.Pk f93)
          obtain ⟨mm, hmm, ec, ez, eg⟩ := cnF_g (U := U) (n := n) (c := i) (show 7776 ≤ 7776 by omega)
          refine px_aload_n dX5_goOn_96 rfl rfl ?_
          refine cx_get (k := 20) (i := 0) (f := 3) dX5_goOn_97 gX5_12 rfl Nat.one_pos rfl ?_
          refine cx_get (k := 13) (i := 1) (f := 0) dX5_goOn_100 gX5_89 rfl (show 1 < 2 by omega) rfl ?_
          refine px_iconst (v := (-1)) dX5_goOn_103 (by decide) ?_
          refine px_icmp_eq (tgt := 184) dX5_goOn_104 (by decide) (fun H104 => ?_) (fun H104 => ?_)
          · skip
            rw [show S93 (120 + 10 * 1) 0 = (cnF U n i 7776).1 from m93.2.1] at H104
            have hzero : (cnF U n i 7776).2.2 = 0 := by rw [ec, ez.mp H104]; rfl
            refine px_iinc_7 (v := 1) dX5_goOn_184 (by decide) (by decide) rfl ?_
            refine px_goto (tgt := 38) dX5_goOn_187 (by decide) ?_
            rw [nI_1]
            first
            | exact ih (i + 1) S181 (g2.tr f181.dn) hw2 (by omega) (by omega) _
            | have hw2 : WC T (gnL (gstep n Q.2.1 (j + 1) U u o (nI k) s) (min (i + 1) Q.2.1) (bet w o (nI k) s)) := by
                by_cases hcn : i < Q.2.1
                · rw [show min (i + 1) Q.2.1 = i + 1 by omega, gnL, gstep, if_pos (by first | exact Or.inl hbt | exact Or.inr (Or.inl (hS11 hcn)) | exact Or.inr (Or.inr hzero))]
                  rw [show min i Q.2.1 = i by omega] at hw
                  exact hw
                · rw [show min (i + 1) Q.2.1 = min i Q.2.1 by omega]
                  exact hw
              exact ih (i + 1) T hf hw2 (by omega) (by omega) _
            | have e66 : S93 66 = T 66 := by rw [f93 66 (by unfold scP; simp only [List.mem_cons, List.not_mem_nil, or_false]; omega), f85 66 (by unfold scC; simp only [List.mem_cons, List.not_mem_nil, or_false]; omega)]
              have hw93 : WC S93 (gnL (gstep n Q.2.1 (j + 1) U u o (nI k) s) (min i Q.2.1) (bet w o (nI k) s)) := by unfold WC; rw [e66]; exact hw
              have hw2 : WC S93 (gnL (gstep n Q.2.1 (j + 1) U u o (nI k) s) (min (i + 1) Q.2.1) (bet w o (nI k) s)) := by
                by_cases hcn : i < Q.2.1
                · rw [show min (i + 1) Q.2.1 = i + 1 by omega, gnL, gstep, if_pos (by first | exact Or.inl hbt | exact Or.inr (Or.inl (hS11 hcn)) | exact Or.inr (Or.inr hzero))]
                  rw [show min i Q.2.1 = i by omega] at hw93
                  exact hw93
                · rw [show min (i + 1) Q.2.1 = min i Q.2.1 by omega]
                  exact hw93
              exact ih (i + 1) S93 g93 hw2 (by omega) (by omega) _
          · skip
            rw [show S93 (120 + 10 * 1) 0 = (cnF U n i 7776).1 from m93.2.1] at H104
            have hnz : ¬ (cnF U n i 7776).2.2 = 0 := fun q => H104 (ez.mpr (by rw [ec] at q; exact eq_n (b := 0) (by omega) (by omega) q))
            obtain ⟨pb, hpb, eb⟩ : ∃ p, p < 7776 ∧ (cnF U n i 7776).1 = nI p := by
              rcases cnF_1 (U := U) (n := n) (c := i) (show 7776 ≤ 7776 by omega) with q | q
              · exact absurd q H104
              · exact q
            have hgd := eg pb hpb eb
            have h31 : k + 1 < 4 := by omega
            refine px_aload_n dX5_goOn_107 rfl rfl ?_
            refine cx_get (k := 20) (i := 0) (f := 5) dX5_goOn_108 gX5_26 rfl Nat.one_pos rfl ?_
            refine px_iload_n dX5_goOn_111 rfl rfl ?_
            refine cx_aald (k := 22) (i := 0) (k) dX5_goOn_112 rfl Nat.one_pos rfl rfl rfl (by omega) (by decide) rfl ?_
            refine px_iconst (v := 0) dX5_goOn_113 (by decide) ?_
            refine px_aload_n dX5_goOn_114 rfl rfl ?_
            refine cx_get (k := 20) (i := 0) (f := 5) dX5_goOn_115 gX5_26 rfl Nat.one_pos rfl ?_
            refine px_iload_n dX5_goOn_118 rfl rfl ?_
            refine px_iconst (v := 1) dX5_goOn_119 (by decide) ?_
            refine px_iadd dX5_goOn_120 ?_
            refine cx_aald (k := 22) (i := 0) (k + 1) dX5_goOn_121 rfl Nat.one_pos rfl rfl (nI_1 k) (by omega) (by decide) rfl ?_
            refine px_iconst (v := 0) dX5_goOn_122 (by decide) ?_
            refine px_bipush (v := 6) dX5_goOn_123 (by decide) ?_
            refine cx_copy (k0 := 23) (i0 := k) (k := 23) (i := k + 1) (r := 100 + (k + 1)) 0 0 6 dX5_goOn_125 cp_X5_48 (by omega) rfl (show k < 4 by omega) (fun _ _ => rfl) (show k + 1 < 4 by omega) (by omega) (fun j => (ow_100 (by omega) j).1) rfl rfl rfl (by omega) (by omega) (by decide) (Nat.le_of_ble_eq_true rfl) ?_
            generalize hT1 : setA S93 (100 + (k + 1)) _ = T1
            have g1 : frG k t S T1 := by rw [← hT1]; exact g93.set (by omega)
            have n1 : ∀ r, r ≠ 100 + (k + 1) → T1 r = S93 r := fun r hr => by rw [← hT1]; exact setA_ne hr
            have o1 : ∀ x, x < 6 → T1 (100 + (k + 1)) x = U 2 x := fun x hx => by
              rw [← hT1, setA_eq, cpy_fill, fa_fill_in hx, hUR.2 x hx]
              exact congrFun (g93 (100 + k) (by omega) (by omega) (by omega) (by omega) (by omega)) x
            have L1 : LO T1 1 (setA U 2 (T1 (100 + (k + 1)))) n i := (L93.go (by rw [n1 _ (by omega)]) (n1 _ (by omega)) (n1 _ (by omega)) (n1 _ (by omega)) (n1 _ (by omega))).R2 hn6 o1
            have b1 : T1 (120 + 10 * 1) 0 = nI pb := by rw [n1 _ (by omega), m93.2.1, eb]
            refine px_aload_n dX5_goOn_128 rfl rfl ?_
            refine cx_get (k := 20) (i := 0) (f := 3) dX5_goOn_129 gX5_12 rfl Nat.one_pos rfl ?_
            refine px_aload_n dX5_goOn_132 rfl rfl ?_
            refine cx_get (k := 20) (i := 0) (f := 3) dX5_goOn_133 gX5_12 rfl Nat.one_pos rfl ?_
            refine cx_get (k := 13) (i := 1) (f := 0) dX5_goOn_136 gX5_89 rfl (show 1 < 2 by omega) rfl ?_
            refine px_top b1 ?_
            refine px_aload_n dX5_goOn_139 rfl rfl ?_
            refine cx_get (k := 20) (i := 0) (f := 5) dX5_goOn_140 gX5_26 rfl Nat.one_pos rfl ?_
            refine px_iload_n dX5_goOn_143 rfl rfl ?_
            refine px_iconst (v := 1) dX5_goOn_144 (by decide) ?_
            refine px_iadd dX5_goOn_145 ?_
            refine cx_aald (k := 22) (i := 0) (k + 1) dX5_goOn_146 rfl Nat.one_pos rfl rfl (nI_1 k) (by omega) (by decide) rfl ?_
            refine cx_callV2 (k := 13) (i := 1) dX5_goOn_147 lX5_92 rfl (show 1 < 2 by omega) rfl (c_X3_takeAway G m M0 Q T1 1 n i pb 23 (k + 1) (100 + (k + 1)) (setA U 2 (T1 (100 + (k + 1)))) (by decide) L1 hn6 hpb (fun _ => rfl) (show k + 1 < 4 by omega) (by omega) (fun j => (ow_100 (by omega) j).1) (by omega) setA_eq) (by omega) (Nat.le_of_ble_eq_true rfl) (fun S147 Q147 => ?_)
            generalize hT2 : setA T1 (100 + (k + 1)) _ = T2 at Q147
            obtain rfl := Q147.symm
            have g2 : frG k t S T2 := by rw [← hT2]; exact g1.set (by omega)
            have hPT2 := hPH.gG g2
            have hOP2 : OP T2 Q := fun q hq => by rw [g2 67 (by omega) (by omega) (by omega) (by omega) (by omega), g2.fk 11 (by decide)]; exact hOP q hq
            have hUR2 : UR T2 (k + 1) (setA U 2 (tkF U i pb 1 5)) := ⟨fun r hr he => by rw [setA_ne he, g2.fk r hr]; exact hUR.1 r hr he, fun x hx => by rw [setA_eq, ← hT2, setA_eq]; exact (tkF_6 o1 5 x hx).symm⟩
            have hw2 : WC T2 (gnL (gstep n Q.2.1 (j + 1) U u o (nI k) s) i (bet w o (nI k) s)) := by
              rw [show min i Q.2.1 = i by omega] at hw
              unfold WC
              rw [← hT2, setA_ne (by omega), n1 66 (by omega)]
              have e66 : S93 66 = T 66 := by rw [f93 66 (by unfold scP; simp only [List.mem_cons, List.not_mem_nil, or_false]; omega), f85 66 (by unfold scC; simp only [List.mem_cons, List.not_mem_nil, or_false]; omega)]
              rw [e66]
              exact hw
            obtain ⟨hb1, hb2, -⟩ := hb_o hu l3 H65
            have hfr2 := fre_s hu l3 H65
            refine px_aload_n dX5_goOn_150 rfl rfl ?_
            refine px_aload_n dX5_goOn_151 rfl rfl ?_
            refine px_aload_n dX5_goOn_152 rfl rfl ?_
            refine px_iload_n dX5_goOn_153 rfl rfl ?_
            refine px_iconst (v := 1) dX5_goOn_154 (by decide) ?_
            refine px_iadd dX5_goOn_155 ?_
            rw [nI_1 k]
            refine px_iload dX5_goOn_156 rfl ?_
            refine px_iconst (v := 1) dX5_goOn_158 (by decide) ?_
            refine px_iload dX5_goOn_159 rfl ?_
            refine px_ishl dX5_goOn_161 ?_
            refine px_ior dX5_goOn_162 ?_
            rw [hb1]
            refine px_iload dX5_goOn_163 rfl ?_
            refine px_bipush (v := 10) dX5_goOn_165 (by decide) ?_
            refine px_imul dX5_goOn_167 ?_
            refine px_iload dX5_goOn_168 rfl ?_
            refine px_iadd dX5_goOn_170 ?_
            refine px_iconst (v := 1) dX5_goOn_171 (by decide) ?_
            refine px_iadd dX5_goOn_172 ?_
            refine px_iload dX5_goOn_173 rfl ?_
            refine px_aload dX5_goOn_175 rfl ?_
            refine cx_callOI0 (k := 33) (i := i) dX5_goOn_177 (ko_X5_62 _) rfl (show i < Q.2.1 by omega) (vk_cl _) (c_bringsV G m M0 Q T2 i hc (hPT2.2.2.2.2 i hc).1) (by omega) (Nat.le_of_ble_eq_true rfl) (fun x177 S177 Q177 => ?_)
            obtain ⟨rfl, e177⟩ := Q177
            obtain rfl := e177.symm
            rw [mBr_k g2.fk, ← mBr_R hUR]
            refine px_iadd dX5_goOn_180 ?_
            refine cx_callV6 (k := 20) (i := 0) dX5_goOn_181 lX5_58 rfl Nat.one_pos rfl (hrec T2 (setA U 2 (tkF U i pb 1 5)) (u + 2 ^ i) (k + 1) _ _ _ (by omega) hb2 (by omega) hPT2 hOP2 hUR2 (OB_tk hTK hOB hgd) hw2) (by omega) (Nat.le_of_ble_eq_true rfl) (fun S181 Q181 => ?_)
            obtain ⟨f181, w181⟩ := Q181
            have hw2 : WC S181 (gnL (gstep n Q.2.1 (j + 1) U u o (nI k) s) (min (i + 1) Q.2.1) (bet w o (nI k) s)) := by
              rw [show min (i + 1) Q.2.1 = i + 1 by omega, gnL]
              unfold gstep
              rw [if_neg (fun q => by rcases q with q | q | q; exact H65 q; exact q (by rw [hUR.1 11 (by decide) (by decide)]; exact h11); exact hnz q), eb, nI_clamp (by omega)]
              rw [← nI_1, Int32.mul_comm o] at w181
              exact w181
            refine px_iinc_7 (v := 1) dX5_goOn_184 (by decide) (by decide) rfl ?_
            refine px_goto (tgt := 38) dX5_goOn_187 (by decide) ?_
            rw [nI_1]
            first
            | exact ih (i + 1) S181 (g2.tr f181.dn) hw2 (by omega) (by omega) _
            | have hw2 : WC T (gnL (gstep n Q.2.1 (j + 1) U u o (nI k) s) (min (i + 1) Q.2.1) (bet w o (nI k) s)) := by
                by_cases hcn : i < Q.2.1
                · rw [show min (i + 1) Q.2.1 = i + 1 by omega, gnL, gstep, if_pos (by first | exact Or.inl hbt | exact Or.inr (Or.inl (hS11 hcn)) | exact Or.inr (Or.inr hzero))]
                  rw [show min i Q.2.1 = i by omega] at hw
                  exact hw
                · rw [show min (i + 1) Q.2.1 = min i Q.2.1 by omega]
                  exact hw
              exact ih (i + 1) T hf hw2 (by omega) (by omega) _
            | have e66 : S93 66 = T 66 := by rw [f93 66 (by unfold scP; simp only [List.mem_cons, List.not_mem_nil, or_false]; omega), f85 66 (by unfold scC; simp only [List.mem_cons, List.not_mem_nil, or_false]; omega)]
              have hw93 : WC S93 (gnL (gstep n Q.2.1 (j + 1) U u o (nI k) s) (min i Q.2.1) (bet w o (nI k) s)) := by unfold WC; rw [e66]; exact hw
              have hw2 : WC S93 (gnL (gstep n Q.2.1 (j + 1) U u o (nI k) s) (min (i + 1) Q.2.1) (bet w o (nI k) s)) := by
                by_cases hcn : i < Q.2.1
                · rw [show min (i + 1) Q.2.1 = i + 1 by omega, gnL, gstep, if_pos (by first | exact Or.inl hbt | exact Or.inr (Or.inl (hS11 hcn)) | exact Or.inr (Or.inr hzero))]
                  rw [show min i Q.2.1 = i by omega] at hw93
                  exact hw93
                · rw [show min (i + 1) Q.2.1 = min i Q.2.1 by omega]
                  exact hw93
              exact ih (i + 1) S93 g93 hw2 (by omega) (by omega) _
        · skip
          rw [hB_b hu l3] at H65
          have hbt : hb u i = true := by
            by_cases q : hb u i = true
            · exact q
            · exact absurd q H65
          refine px_goto (tgt := 184) dX5_goOn_68 (by decide) ?_
          refine px_iinc_7 (v := 1) dX5_goOn_184 (by decide) (by decide) rfl ?_
          refine px_goto (tgt := 38) dX5_goOn_187 (by decide) ?_
          rw [nI_1]
          first
          | exact ih (i + 1) S181 (g2.tr f181.dn) hw2 (by omega) (by omega) _
          | have hw2 : WC T (gnL (gstep n Q.2.1 (j + 1) U u o (nI k) s) (min (i + 1) Q.2.1) (bet w o (nI k) s)) := by
              by_cases hcn : i < Q.2.1
              · rw [show min (i + 1) Q.2.1 = i + 1 by omega, gnL, gstep, if_pos (by first | exact Or.inl hbt | exact Or.inr (Or.inl (hS11 hcn)) | exact Or.inr (Or.inr hzero))]
                rw [show min i Q.2.1 = i by omega] at hw
                exact hw
              · rw [show min (i + 1) Q.2.1 = min i Q.2.1 by omega]
                exact hw
            exact ih (i + 1) T hf hw2 (by omega) (by omega) _
          | have e66 : S93 66 = T 66 := by rw [f93 66 (by unfold scP; simp only [List.mem_cons, List.not_mem_nil, or_false]; omega), f85 66 (by unfold scC; simp only [List.mem_cons, List.not_mem_nil, or_false]; omega)]
            have hw93 : WC S93 (gnL (gstep n Q.2.1 (j + 1) U u o (nI k) s) (min i Q.2.1) (bet w o (nI k) s)) := by unfold WC; rw [e66]; exact hw
            have hw2 : WC S93 (gnL (gstep n Q.2.1 (j + 1) U u o (nI k) s) (min (i + 1) Q.2.1) (bet w o (nI k) s)) := by
              by_cases hcn : i < Q.2.1
              · rw [show min (i + 1) Q.2.1 = i + 1 by omega, gnL, gstep, if_pos (by first | exact Or.inl hbt | exact Or.inr (Or.inl (hS11 hcn)) | exact Or.inr (Or.inr hzero))]
                rw [show min i Q.2.1 = i by omega] at hw93
                exact hw93
              · rw [show min (i + 1) Q.2.1 = min i Q.2.1 by omega]
                exact hw93
            exact ih (i + 1) S93 g93 hw2 (by omega) (by omega) _
      · skip
        have hS11 : i < Q.2.1 → ¬ U 11 i = 0 := fun q e => hcc (by rw [o3, if_pos ⟨q, by rw [← hUR.1 11 (by decide) (by decide)]; exact e⟩])
        refine cx_aald (k := 21) (i := 0) (i) dX5_goOn_50 rfl Nat.one_pos rfl rfl rfl (by omega) (by decide) (co_neg (by rw [f67]; exact hcc)) ?_
        refine px_astoreN_8 dX5_goOn_51 (by decide) rfl ?_
        refine px_aloadN dX5_goOn_53 rfl ?_
        refine px_ifnullN (tgt := 184) dX5_goOn_55 (by decide) ?_
        refine px_iinc_7 (v := 1) dX5_goOn_184 (by decide) (by decide) rfl ?_
        refine px_goto (tgt := 38) dX5_goOn_187 (by decide) ?_
        rw [nI_1]
        first
        | exact ih (i + 1) S181 (g2.tr f181.dn) hw2 (by omega) (by omega) _
        | have hw2 : WC T (gnL (gstep n Q.2.1 (j + 1) U u o (nI k) s) (min (i + 1) Q.2.1) (bet w o (nI k) s)) := by
            by_cases hcn : i < Q.2.1
            · rw [show min (i + 1) Q.2.1 = i + 1 by omega, gnL, gstep, if_pos (by first | exact Or.inl hbt | exact Or.inr (Or.inl (hS11 hcn)) | exact Or.inr (Or.inr hzero))]
              rw [show min i Q.2.1 = i by omega] at hw
              exact hw
            · rw [show min (i + 1) Q.2.1 = min i Q.2.1 by omega]
              exact hw
          exact ih (i + 1) T hf hw2 (by omega) (by omega) _
        | have e66 : S93 66 = T 66 := by rw [f93 66 (by unfold scP; simp only [List.mem_cons, List.not_mem_nil, or_false]; omega), f85 66 (by unfold scC; simp only [List.mem_cons, List.not_mem_nil, or_false]; omega)]
          have hw93 : WC S93 (gnL (gstep n Q.2.1 (j + 1) U u o (nI k) s) (min i Q.2.1) (bet w o (nI k) s)) := by unfold WC; rw [e66]; exact hw
          have hw2 : WC S93 (gnL (gstep n Q.2.1 (j + 1) U u o (nI k) s) (min (i + 1) Q.2.1) (bet w o (nI k) s)) := by
            by_cases hcn : i < Q.2.1
            · rw [show min (i + 1) Q.2.1 = i + 1 by omega, gnL, gstep, if_pos (by first | exact Or.inl hbt | exact Or.inr (Or.inl (hS11 hcn)) | exact Or.inr (Or.inr hzero))]
              rw [show min i Q.2.1 = i by omega] at hw93
              exact hw93
            · rw [show min (i + 1) Q.2.1 = min i Q.2.1 by omega]
              exact hw93
          exact ih (i + 1) S93 g93 hw2 (by omega) (by omega) _
      -- end
set_option maxHeartbeats 4000000 in
set_option maxRecDepth 100000 in
theorem c_X5_goOn (G : Gt) (m : Nat → Prop) (M0 : Nat → va_E) (Q : Qt) (n t : Nat) : ∀ j, GNC G m M0 Q n t j := by
  intro j
  induction j with
  | zero =>
    intro S U u k o s w hkj hu hfre hPH hOP hUR hOB hWC
    have ht := hPH.2.2.1.2.1
    have h6 := hPH.2.2.1.2.2.1
    refine pc_of (ls := [some (.ref (Q.1 20 0)), some (.ref (Q.1 28 t)), some (.ref (Q.1 1 0)), some (.int (nI k)), some (.int (nI u)), some (.int o), some (.int s), none, none]) (by decide +kernel) rfl (Nat.le_of_ble_eq_true rfl) ?_
    refine px_aload_n dX5_goOn_0 rfl rfl ?_
    refine px_iload_n dX5_goOn_1 rfl rfl ?_
    refine px_iload dX5_goOn_2 rfl ?_
    refine px_iload dX5_goOn_4 rfl ?_
    refine cx_callI3 (k := 20) (i := 0) dX5_goOn_6 lX5_73 rfl Nat.one_pos rfl (c_X5_isBetter G m M0 Q S (nI k) o s) (by omega) (Nat.le_of_ble_eq_true rfl) (fun x6 S6 Q6 => ?_)
    obtain ⟨hx6, e6⟩ := Q6
    obtain rfl := e6.symm
    refine px_if_eq (tgt := 29) dX5_goOn_9 (by decide) (fun H9 => ?_) (fun H9 => ?_)
    · skip
      have hx9 : ¬ bC (S 66 0, S 66 1, S 66 2) o (nI k) s := by
        rcases hx6 with ⟨hx, hy⟩ | ⟨hx, hy⟩
        · rw [hx] at H9; exact absurd H9 (by decide)
        · exact hy
      obtain ⟨T1, hT1⟩ : ∃ T, T = S := ⟨_, rfl⟩
      refine px_S hT1.symm ?_
      have g1 : frG k t S T1 := by rw [hT1]; exact frG.rf
      have w1 : WC T1 (bet w o (nI k) s) := by
        rw [bet_no ((show (S 66 0, S 66 1, S 66 2) = w from by rw [hWC.1, hWC.2.1, hWC.2.2]) ▸ hx9), hT1]
        exact hWC
      skip
      refine px_iload_n dX5_goOn_29 rfl rfl ?_
      refine px_iconst (v := 3) dX5_goOn_30 (by decide) ?_
      refine px_icmp_lt (tgt := 35) dX5_goOn_31 (by decide) (fun H31 => ?_) (fun H31 => ?_)
      · skip
        exact absurd (lt_n (b := 3) (by omega) (by omega) H31) (by omega)
      · skip
        refine px_return dX5_goOn_34 rfl ?_
        exact ⟨g1, by rw [gnF_s, fre_7 hu hfre, gnL_full (by omega)]; exact w1⟩
    · skip
      have hx9 : bC (S 66 0, S 66 1, S 66 2) o (nI k) s := by
        rcases hx6 with ⟨hx, hy⟩ | ⟨hx, hy⟩
        · exact hy
        · exact absurd hx H9
      refine px_aload_n dX5_goOn_12 rfl rfl ?_
      refine px_iload dX5_goOn_13 rfl ?_
      refine cx_put (k := 20) (i := 0) (f := 0) (r := 66) (j := 0) dX5_goOn_15 gX5_33 rfl Nat.one_pos (Nat.le_of_ble_eq_true rfl) (by decide) rfl (cpe_20_0 0 _) rfl rfl ?_
      refine px_aload_n dX5_goOn_18 rfl rfl ?_
      refine px_iload dX5_goOn_19 rfl ?_
      refine cx_put (k := 20) (i := 0) (f := 1) (r := 66) (j := 1) dX5_goOn_21 gX5_37 rfl Nat.one_pos (Nat.le_of_ble_eq_true rfl) (by decide) rfl (cpe_20_1 0 _) rfl rfl ?_
      refine px_aload_n dX5_goOn_24 rfl rfl ?_
      refine px_iload_n dX5_goOn_25 rfl rfl ?_
      refine cx_put (k := 20) (i := 0) (f := 2) (r := 66) (j := 2) dX5_goOn_26 gX5_40 rfl Nat.one_pos (Nat.le_of_ble_eq_true rfl) (by decide) rfl (cpe_20_2 0 _) rfl rfl ?_
      generalize hT1 : up2 (up2 (up2 S 66 0 s) 66 1 o) 66 2 (nI k) = T1
      have g1 : frG k t S T1 := by rw [← hT1]; exact (((frG.rf).up (Or.inl rfl)).up (Or.inl rfl)).up (Or.inl rfl)
      have w1 : WC T1 (bet w o (nI k) s) := by
        rw [bet_yes ((show (S 66 0, S 66 1, S 66 2) = w from by rw [hWC.1, hWC.2.1, hWC.2.2]) ▸ hx9), ← hT1]
        exact ⟨by simp [up2, upd], by simp [up2, upd], by simp [up2, upd]⟩
      skip
      refine px_iload_n dX5_goOn_29 rfl rfl ?_
      refine px_iconst (v := 3) dX5_goOn_30 (by decide) ?_
      refine px_icmp_lt (tgt := 35) dX5_goOn_31 (by decide) (fun H31 => ?_) (fun H31 => ?_)
      · skip
        exact absurd (lt_n (b := 3) (by omega) (by omega) H31) (by omega)
      · skip
        refine px_return dX5_goOn_34 rfl ?_
        exact ⟨g1, by rw [gnF_s, fre_7 hu hfre, gnL_full (by omega)]; exact w1⟩
  | succ j ih =>
    intro S U u k o s w hkj hu hfre hPH hOP hUR hOB hWC
    have ht := hPH.2.2.1.2.1
    have h6 := hPH.2.2.1.2.2.1
    refine pc_of (ls := [some (.ref (Q.1 20 0)), some (.ref (Q.1 28 t)), some (.ref (Q.1 1 0)), some (.int (nI k)), some (.int (nI u)), some (.int o), some (.int s), none, none]) (by decide +kernel) rfl (Nat.le_of_ble_eq_true rfl) ?_
    refine px_aload_n dX5_goOn_0 rfl rfl ?_
    refine px_iload_n dX5_goOn_1 rfl rfl ?_
    refine px_iload dX5_goOn_2 rfl ?_
    refine px_iload dX5_goOn_4 rfl ?_
    refine cx_callI3 (k := 20) (i := 0) dX5_goOn_6 lX5_73 rfl Nat.one_pos rfl (c_X5_isBetter G m M0 Q S (nI k) o s) (by omega) (Nat.le_of_ble_eq_true rfl) (fun x6 S6 Q6 => ?_)
    obtain ⟨hx6, e6⟩ := Q6
    obtain rfl := e6.symm
    refine px_if_eq (tgt := 29) dX5_goOn_9 (by decide) (fun H9 => ?_) (fun H9 => ?_)
    · skip
      have hx9 : ¬ bC (S 66 0, S 66 1, S 66 2) o (nI k) s := by
        rcases hx6 with ⟨hx, hy⟩ | ⟨hx, hy⟩
        · rw [hx] at H9; exact absurd H9 (by decide)
        · exact hy
      obtain ⟨T1, hT1⟩ : ∃ T, T = S := ⟨_, rfl⟩
      refine px_S hT1.symm ?_
      have g1 : frG k t S T1 := by rw [hT1]; exact frG.rf
      have w1 : WC T1 (bet w o (nI k) s) := by
        rw [bet_no ((show (S 66 0, S 66 1, S 66 2) = w from by rw [hWC.1, hWC.2.1, hWC.2.2]) ▸ hx9), hT1]
        exact hWC
      skip
      refine px_iload_n dX5_goOn_29 rfl rfl ?_
      refine px_iconst (v := 3) dX5_goOn_30 (by decide) ?_
      refine px_icmp_lt (tgt := 35) dX5_goOn_31 (by decide) (fun H31 => ?_) (fun H31 => ?_)
      · skip
        refine px_iconst (v := 0) dX5_goOn_35 (by decide) ?_
        refine px_istore_7 dX5_goOn_36 (by decide) rfl ?_
        exact px_post (fun r S2 h2 => ⟨h2.1, g1.tr h2.2.1, h2.2.2⟩) (lp_goOn G m M0 Q T1 n t j u k o s w U ih hkj hu hfre (hPH.gG g1) (fun q hq => by rw [g1 67 (by omega) (by omega) (by omega) (by omega) (by omega), g1.fk 11 (by decide)]; exact hOP q hq) (hUR.go g1 (by omega) (by omega)) hOB 4 0 T1 frG.rf (by rw [Nat.zero_min]; exact w1) (by omega) (by omega) _)
      · skip
        exact absurd (ge_n (b := 3) (by omega) (by omega) H31) (by omega)
    · skip
      have hx9 : bC (S 66 0, S 66 1, S 66 2) o (nI k) s := by
        rcases hx6 with ⟨hx, hy⟩ | ⟨hx, hy⟩
        · exact hy
        · exact absurd hx H9
      refine px_aload_n dX5_goOn_12 rfl rfl ?_
      refine px_iload dX5_goOn_13 rfl ?_
      refine cx_put (k := 20) (i := 0) (f := 0) (r := 66) (j := 0) dX5_goOn_15 gX5_33 rfl Nat.one_pos (Nat.le_of_ble_eq_true rfl) (by decide) rfl (cpe_20_0 0 _) rfl rfl ?_
      refine px_aload_n dX5_goOn_18 rfl rfl ?_
      refine px_iload dX5_goOn_19 rfl ?_
      refine cx_put (k := 20) (i := 0) (f := 1) (r := 66) (j := 1) dX5_goOn_21 gX5_37 rfl Nat.one_pos (Nat.le_of_ble_eq_true rfl) (by decide) rfl (cpe_20_1 0 _) rfl rfl ?_
      refine px_aload_n dX5_goOn_24 rfl rfl ?_
      refine px_iload_n dX5_goOn_25 rfl rfl ?_
      refine cx_put (k := 20) (i := 0) (f := 2) (r := 66) (j := 2) dX5_goOn_26 gX5_40 rfl Nat.one_pos (Nat.le_of_ble_eq_true rfl) (by decide) rfl (cpe_20_2 0 _) rfl rfl ?_
      generalize hT1 : up2 (up2 (up2 S 66 0 s) 66 1 o) 66 2 (nI k) = T1
      have g1 : frG k t S T1 := by rw [← hT1]; exact (((frG.rf).up (Or.inl rfl)).up (Or.inl rfl)).up (Or.inl rfl)
      have w1 : WC T1 (bet w o (nI k) s) := by
        rw [bet_yes ((show (S 66 0, S 66 1, S 66 2) = w from by rw [hWC.1, hWC.2.1, hWC.2.2]) ▸ hx9), ← hT1]
        exact ⟨by simp [up2, upd], by simp [up2, upd], by simp [up2, upd]⟩
      skip
      refine px_iload_n dX5_goOn_29 rfl rfl ?_
      refine px_iconst (v := 3) dX5_goOn_30 (by decide) ?_
      refine px_icmp_lt (tgt := 35) dX5_goOn_31 (by decide) (fun H31 => ?_) (fun H31 => ?_)
      · skip
        refine px_iconst (v := 0) dX5_goOn_35 (by decide) ?_
        refine px_istore_7 dX5_goOn_36 (by decide) rfl ?_
        exact px_post (fun r S2 h2 => ⟨h2.1, g1.tr h2.2.1, h2.2.2⟩) (lp_goOn G m M0 Q T1 n t j u k o s w U ih hkj hu hfre (hPH.gG g1) (fun q hq => by rw [g1 67 (by omega) (by omega) (by omega) (by omega) (by omega), g1.fk 11 (by decide)]; exact hOP q hq) (hUR.go g1 (by omega) (by omega)) hOB 4 0 T1 frG.rf (by rw [Nat.zero_min]; exact w1) (by omega) (by omega) _)
      · skip
        exact absurd (ge_n (b := 3) (by omega) (by omega) H31) (by omega)
