/-! THE CLASS: readOne, readNot, all readers -/
set_option maxHeartbeats 400000 in
set_option maxRecDepth 100000 in
theorem r_readOne (G : Gt) (m : Nat → Prop) (M0 : Nat → va_E) (Q : Qt) (S : MS) (t n d d1 d2 : Nat) (o1 ei : PZ → PZ) (hG : TP G S t) (hd : 9 ≤ d) (hd1 : d1 ≤ d) (hd2 : d2 ≤ d) (h1 : FOK t n o1) (h2 : FOK t n ei) (hR1 : CR G m M0 Q S t n d1 Y7_readOne o1) (hR2 : CR G m M0 Q S t n d2 Y7_readE ei) : CC G m M0 Q S t (n + 1) (d + 1) Y7_readOne (zOne1 (S 14) t o1 ei) := by
  intro z T hR hz hn
  show PC G (CPic G m M0 Q) (d + 1) Y7_readOne [.ref (Q.1 9 0)] T 0 0 (rv (fun S' => RDL S S' (zOne1 (S 14) t o1 ei z)))
  refine pc_of (ls := [some (.ref (Q.1 9 0))]) (by decide +kernel) rfl (Nat.le_of_ble_eq_true rfl) ?_
  refine px_aload_n dX7_readOne_0 rfl rfl ?_
  refine cx_get (k := 9) (i := 0) (f := 3) dX7_readOne_1 gX7_45 rfl Nat.one_pos rfl ?_
  refine px_iconst (v := 2) dX7_readOne_4 (by decide) ?_
  refine px_icmp_ne (tgt := 23) dX7_readOne_5 (by decide) (fun H5 => ?_) (fun H5 => ?_)
  · skip
    have ne1 : zF z < 0 → ¬ zS z = 2 := fun a b => H5 ((rl_num hR).mpr ⟨a, b⟩)
    refine px_aload_n dX7_readOne_23 rfl rfl ?_
    refine cx_get (k := 9) (i := 0) (f := 3) dX7_readOne_24 gX7_45 rfl Nat.one_pos rfl ?_
    refine px_sipush (v := 256) dX7_readOne_27 (by decide) ?_
    refine px_sipush (v := 261) dX7_readOne_30 (by decide) ?_
    refine px_pureN3 dX7_readOne_33 lX7_91 (c_X11_isWithin G _ _ _) (by omega) (Nat.le_of_ble_eq_true rfl) ?_
    refine px_if_eq (tgt := 60) dX7_readOne_36 (by decide) (fun H36 => ?_) (fun H36 => ?_)
    · skip
      have ne2 : zF z < 0 → ¬ (zS z = 1 ∧ zV z < 6) := fun a b => (rl_nam hR).mp H36 ⟨a, b.1, b.2⟩
      refine px_aload_n dX7_readOne_60 rfl rfl ?_
      refine cx_get (k := 9) (i := 0) (f := 3) dX7_readOne_61 gX7_45 rfl Nat.one_pos rfl ?_
      refine px_bipush (v := 45) dX7_readOne_64 (by decide) ?_
      refine px_icmp_ne (tgt := 99) dX7_readOne_66 (by decide) (fun H66 => ?_) (fun H66 => ?_)
      · skip
        have n45 : ¬ zSg z 45 = true := fun q => H66 ((rl_sg (x := 45) (by decide) hR).mpr q)
        refine px_aload_n dX7_readOne_99 rfl rfl ?_
        refine cx_get (k := 9) (i := 0) (f := 3) dX7_readOne_100 gX7_45 rfl Nat.one_pos rfl ?_
        refine px_bipush (v := 40) dX7_readOne_103 (by decide) ?_
        refine px_icmp_ne (tgt := 138) dX7_readOne_105 (by decide) (fun H105 => ?_) (fun H105 => ?_)
        · skip
          have n40 : ¬ zSg z 40 = true := fun q => H105 ((rl_sg (x := 40) (by decide) hR).mpr q)
          refine px_aload_n dX7_readOne_138 rfl rfl ?_
          refine cx_callV0 (k := 9) (i := 0) dX7_readOne_139 lX7_48 rfl Nat.one_pos rfl (r_fail G m M0 Q S T z t hR (fun _ => hz)) (by omega) (Nat.le_of_ble_eq_true rfl) (fun S139 Q139 => ?_)
          have R9 : RDL S S139 (zOne1 (S 14) t o1 ei z) := by
            by_cases hf : zF z < 0
            · rw [zOne1, if_neg (not_not_intro hf), if_neg (ne1 hf), if_neg (ne2 hf), if_neg n45, if_neg n40]; exact Q139
            · rw [zOne1, if_pos hf]; rw [zW_x z hf] at Q139; exact Q139
          refine px_return dX7_readOne_142 rfl ?_
          first
          | exact R9
          | exact rl_cg (show zW z = zOne1 (S 14) t o1 ei z from by rw [zOne1, if_neg (not_not_intro hf), if_neg (ne1 hf), if_neg (ne2 hf), if_pos z45, if_pos ho]) R70
          | exact rl_cg (show zW z = zOne1 (S 14) t o1 ei z from by rw [zOne1, if_neg (not_not_intro hf), if_neg (ne1 hf), if_neg (ne2 hf), if_neg n45, if_pos z40, if_pos ho]) R109
        · skip
          have z40 := (rl_sg (x := 40) (by decide) hR).mp H105
          have hf := (sg_y z40).1
          refine px_aload_n dX7_readOne_108 rfl rfl ?_
          refine cx_callI0 (k := 9) (i := 0) dX7_readOne_109 lX7_75 rfl Nat.one_pos rfl (c_X7_opened G m M0 Q T S t z hG hR hf hz) (by omega) (Nat.le_of_ble_eq_true rfl) (fun x109 S109 Q109 => ?_)
          obtain ⟨rfl, R109⟩ := Q109
          refine px_if_eq (tgt := 142) dX7_readOne_112 (by decide) (fun H112 => ?_) (fun H112 => ?_)
          · skip
            have ho : zO z = 5 := by
              by_cases e : zO z = 5
              · exact e
              · rw [bI_0] at H112; exact absurd (decide_eq_true e) H112
            rw [zOp, if_pos ho] at R109
            refine px_return dX7_readOne_142 rfl ?_
            first
            | exact R9
            | exact rl_cg (show zW z = zOne1 (S 14) t o1 ei z from by rw [zOne1, if_neg (not_not_intro hf), if_neg (ne1 hf), if_neg (ne2 hf), if_pos z45, if_pos ho]) R70
            | exact rl_cg (show zW z = zOne1 (S 14) t o1 ei z from by rw [zOne1, if_neg (not_not_intro hf), if_neg (ne1 hf), if_neg (ne2 hf), if_neg n45, if_pos z40, if_pos ho]) R109
          · skip
            have ho : ¬ zO z = 5 := by intro e; rw [e] at H112; exact H112 rfl
            rw [zOp, if_neg ho] at R109
            obtain ⟨k1, k2, k3, k4, k5, k6, k7, k8, k9⟩ := opn_g (tp := S 14) h2 hz hf (hn hf) (Or.inr (Or.inr (sg_y z40).2.1)) ho
            refine px_aload_n dX7_readOne_115 rfl rfl ?_
            refine cx_callV0 (k := 9) (i := 0) dX7_readOne_116 lX7_42 rfl Nat.one_pos rfl (hR2 _ S109 R109 k1 hf (k2 hf)) (by omega) (Nat.le_of_ble_eq_true rfl) (fun S116 Q116 => ?_)
            skip
            refine px_aload_n dX7_readOne_119 rfl rfl ?_
            refine px_bipush (v := 41) dX7_readOne_120 (by decide) ?_
            refine cx_callV1 (k := 9) (i := 0) dX7_readOne_122 lX7_38 rfl Nat.one_pos rfl (c_X7_need G m M0 Q S116 S t (ei (zN (S 14) t (zI z))) 41 (zSg (ei (zN (S 14) t (zI z))) 41) hG Q116 (rl_sg (by decide) Q116) (fun q => (sg_y q).1) k3) (by omega) (Nat.le_of_ble_eq_true rfl) (fun S122 Q122 => ?_)
            skip
            refine px_aload_n dX7_readOne_125 rfl rfl ?_
            refine px_dup dX7_readOne_126 rfl ?_
            refine cx_get (k := 9) (i := 0) (f := 7) dX7_readOne_127 gX7_29 rfl Nat.one_pos rfl ?_
            refine px_iconst (v := 1) dX7_readOne_130 (by decide) ?_
            refine px_isub dX7_readOne_131 ?_
            refine cx_put (k := 9) (i := 0) (f := 7) (r := 62) (j := 5) dX7_readOne_132 gX7_29 rfl Nat.one_pos (Nat.le_of_ble_eq_true rfl) (by decide) rfl (cpe_9_7 0 _) rfl rfl ?_
            have R132 : RDL S (up2 S122 62 5 (S122 62 5 - 1)) (zD (if zSg (ei (zN (S 14) t (zI z))) 41 = true then zN (S 14) t (ei (zN (S 14) t (zI z))) else zW (ei (zN (S 14) t (zI z))))) := r_open S S122 _ Q122 (fun _ => by split <;> exact k4) rfl
            have R9 : RDL S (up2 S122 62 5 (S122 62 5 - 1)) (zOne1 (S 14) t o1 ei z) := by
              rw [zOne1, if_neg (not_not_intro hf), if_neg (ne1 hf), if_neg (ne2 hf), if_neg (show ¬ zSg z 45 = true from n45), if_pos z40, if_neg ho]
              by_cases e6 : zSg (ei (zN (S 14) t (zI z))) 41 = true
              · rw [if_pos e6] at R132 ⊢
                exact R132
              · rw [if_neg e6] at R132 ⊢
                exact ⟨R132.1, fun q => absurd q (zW_f k3), R132.2.2⟩
            refine px_goto (tgt := 142) dX7_readOne_135 (by decide) ?_
            refine px_return dX7_readOne_142 rfl ?_
            first
            | exact R9
            | exact rl_cg (show zW z = zOne1 (S 14) t o1 ei z from by rw [zOne1, if_neg (not_not_intro hf), if_neg (ne1 hf), if_neg (ne2 hf), if_pos z45, if_pos ho]) R70
            | exact rl_cg (show zW z = zOne1 (S 14) t o1 ei z from by rw [zOne1, if_neg (not_not_intro hf), if_neg (ne1 hf), if_neg (ne2 hf), if_neg n45, if_pos z40, if_pos ho]) R109
      · skip
        have z45 := (rl_sg (x := 45) (by decide) hR).mp H66
        have hf := (sg_y z45).1
        refine px_aload_n dX7_readOne_69 rfl rfl ?_
        refine cx_callI0 (k := 9) (i := 0) dX7_readOne_70 lX7_75 rfl Nat.one_pos rfl (c_X7_opened G m M0 Q T S t z hG hR hf hz) (by omega) (Nat.le_of_ble_eq_true rfl) (fun x70 S70 Q70 => ?_)
        obtain ⟨rfl, R70⟩ := Q70
        refine px_if_eq (tgt := 142) dX7_readOne_73 (by decide) (fun H73 => ?_) (fun H73 => ?_)
        · skip
          have ho : zO z = 5 := by
            by_cases e : zO z = 5
            · exact e
            · rw [bI_0] at H73; exact absurd (decide_eq_true e) H73
          rw [zOp, if_pos ho] at R70
          refine px_return dX7_readOne_142 rfl ?_
          first
          | exact R9
          | exact rl_cg (show zW z = zOne1 (S 14) t o1 ei z from by rw [zOne1, if_neg (not_not_intro hf), if_neg (ne1 hf), if_neg (ne2 hf), if_pos z45, if_pos ho]) R70
          | exact rl_cg (show zW z = zOne1 (S 14) t o1 ei z from by rw [zOne1, if_neg (not_not_intro hf), if_neg (ne1 hf), if_neg (ne2 hf), if_neg n45, if_pos z40, if_pos ho]) R109
        · skip
          have ho : ¬ zO z = 5 := by intro e; rw [e] at H73; exact H73 rfl
          rw [zOp, if_neg ho] at R70
          obtain ⟨k1, k2, k3, k4, k5, k6, k7, k8, k9⟩ := opn_g (tp := S 14) h1 hz hf (hn hf) (Or.inr (Or.inr (sg_y z45).2.1)) ho
          refine px_aload_n dX7_readOne_76 rfl rfl ?_
          refine cx_callV0 (k := 9) (i := 0) dX7_readOne_77 lX7_85 rfl Nat.one_pos rfl (hR1 _ S70 R70 k1 hf (k2 hf)) (by omega) (Nat.le_of_ble_eq_true rfl) (fun S77 Q77 => ?_)
          skip
          refine px_aload_n dX7_readOne_80 rfl rfl ?_
          refine px_dup dX7_readOne_81 rfl ?_
          refine cx_get (k := 9) (i := 0) (f := 7) dX7_readOne_82 gX7_29 rfl Nat.one_pos rfl ?_
          refine px_iconst (v := 1) dX7_readOne_85 (by decide) ?_
          refine px_isub dX7_readOne_86 ?_
          refine cx_put (k := 9) (i := 0) (f := 7) (r := 62) (j := 5) dX7_readOne_87 gX7_29 rfl Nat.one_pos (Nat.le_of_ble_eq_true rfl) (by decide) rfl (cpe_9_7 0 _) rfl rfl ?_
          have R87 := r_open S S77 (o1 (zN (S 14) t (zI z))) Q77 (fun _ => k4) rfl
          generalize up2 S77 62 5 (S77 62 5 - 1) = S87 at R87 ⊢
          refine px_aload_n dX7_readOne_90 rfl rfl ?_
          refine px_bipush (v := (-10)) dX7_readOne_91 (by decide) ?_
          refine cx_callV1 (k := 9) (i := 0) dX7_readOne_93 lX7_69 rfl Nat.one_pos rfl (r_emit G m M0 Q S S87 (zD (o1 (zN (S 14) t (zI z)))) (4, 0) (-10) (fun _ => rfl) R87 (fun _ => show (zL (o1 (zN (S 14) t (zI z)))).length < 160 from by have := k3.1; have := k3.2.1; have := k3.2.2.1; omega)) (by omega) (Nat.le_of_ble_eq_true rfl) (fun S93 Q93 => ?_)
          have R9 := rl_cg (show zAd (zD _) (4, 0) = zOne1 (S 14) t o1 ei z from by rw [zOne1, if_neg (not_not_intro hf), if_neg (ne1 hf), if_neg (ne2 hf), if_pos z45, if_neg ho]) Q93
          refine px_goto (tgt := 142) dX7_readOne_96 (by decide) ?_
          refine px_return dX7_readOne_142 rfl ?_
          first
          | exact R9
          | exact rl_cg (show zW z = zOne1 (S 14) t o1 ei z from by rw [zOne1, if_neg (not_not_intro hf), if_neg (ne1 hf), if_neg (ne2 hf), if_pos z45, if_pos ho]) R70
          | exact rl_cg (show zW z = zOne1 (S 14) t o1 ei z from by rw [zOne1, if_neg (not_not_intro hf), if_neg (ne1 hf), if_neg (ne2 hf), if_neg n45, if_pos z40, if_pos ho]) R109
    · skip
      have z3 := Decidable.not_not.mp (fun q => H36 ((rl_nam hR).mpr q))
      obtain ⟨hf, z1, z6⟩ := z3
      obtain ⟨r0, r1, r2, r3, r4, r5, r6, r7, r8⟩ := hR.2.1 hf
      have hE : zOne1 (S 14) t o1 ei z = zN (S 14) t (zAd z (2, zV z)) := by rw [zOne1, if_neg (not_not_intro hf), if_neg (ne1 hf), if_pos ⟨z1, z6⟩]
      have hT : T 62 1 = 256 + zV z := by rw [r1, tkZ, if_pos z1, if_pos z6]
      refine px_aload_n dX7_readOne_39 rfl rfl ?_
      refine px_iconst (v := (-1)) dX7_readOne_40 (by decide) ?_
      refine px_aload_n dX7_readOne_41 rfl rfl ?_
      refine cx_get (k := 9) (i := 0) (f := 3) dX7_readOne_42 gX7_45 rfl Nat.one_pos rfl ?_
      refine px_sipush (v := 256) dX7_readOne_45 (by decide) ?_
      refine px_isub dX7_readOne_48 ?_
      refine px_isub dX7_readOne_49 ?_
      refine cx_callV1 (k := 9) (i := 0) dX7_readOne_50 lX7_69 rfl Nat.one_pos rfl (r_emit G m M0 Q S T z (2, zV z) _ (fun _ => by rw [hT, Int32.add_comm, Int32.add_sub_cancel]; rfl) hR (fun _ => zi_len hz (Or.inl z1))) (by omega) (Nat.le_of_ble_eq_true rfl) (fun S50 Q50 => ?_)
      skip
      refine px_aload_n dX7_readOne_53 rfl rfl ?_
      refine cx_callV0 (k := 9) (i := 0) dX7_readOne_54 lX7_35 rfl Nat.one_pos rfl (r_step G m M0 Q S S50 (zAd z (2, zV z)) t hG Q50 hf hz.2.1) (by omega) (Nat.le_of_ble_eq_true rfl) (fun S54 Q54 => ?_)
      have R9 := rl_cg hE.symm Q54
      refine px_goto (tgt := 142) dX7_readOne_57 (by decide) ?_
      refine px_return dX7_readOne_142 rfl ?_
      first
      | exact R9
      | exact rl_cg (show zW z = zOne1 (S 14) t o1 ei z from by rw [zOne1, if_neg (not_not_intro hf), if_neg (ne1 hf), if_neg (ne2 hf), if_pos z45, if_pos ho]) R70
      | exact rl_cg (show zW z = zOne1 (S 14) t o1 ei z from by rw [zOne1, if_neg (not_not_intro hf), if_neg (ne1 hf), if_neg (ne2 hf), if_neg n45, if_pos z40, if_pos ho]) R109
  · skip
    obtain ⟨hf, e1⟩ := (rl_num hR).mp H5
    obtain ⟨r0, r1, r2, r3, r4, r5, r6, r7, r8⟩ := hR.2.1 hf
    have hE : zOne1 (S 14) t o1 ei z = zN (S 14) t (zAd z (1, zV z)) := by rw [zOne1, if_neg (not_not_intro hf), if_pos e1]
    refine px_aload_n dX7_readOne_8 rfl rfl ?_
    refine px_aload_n dX7_readOne_9 rfl rfl ?_
    refine cx_get (k := 9) (i := 0) (f := 6) dX7_readOne_10 gX7_88 rfl Nat.one_pos rfl ?_
    refine cx_callV1 (k := 9) (i := 0) dX7_readOne_13 lX7_69 rfl Nat.one_pos rfl (r_emit G m M0 Q S T z (1, zV z) _ (fun _ => by rw [r4 e1]; rfl) hR (fun _ => zi_len hz (Or.inr (Or.inl e1)))) (by omega) (Nat.le_of_ble_eq_true rfl) (fun S13 Q13 => ?_)
    skip
    refine px_aload_n dX7_readOne_16 rfl rfl ?_
    refine cx_callV0 (k := 9) (i := 0) dX7_readOne_17 lX7_35 rfl Nat.one_pos rfl (r_step G m M0 Q S S13 (zAd z (1, zV z)) t hG Q13 hf hz.2.1) (by omega) (Nat.le_of_ble_eq_true rfl) (fun S17 Q17 => ?_)
    have R9 := rl_cg hE.symm Q17
    refine px_goto (tgt := 142) dX7_readOne_20 (by decide) ?_
    refine px_return dX7_readOne_142 rfl ?_
    first
    | exact R9
    | exact rl_cg (show zW z = zOne1 (S 14) t o1 ei z from by rw [zOne1, if_neg (not_not_intro hf), if_neg (ne1 hf), if_neg (ne2 hf), if_pos z45, if_pos ho]) R70
    | exact rl_cg (show zW z = zOne1 (S 14) t o1 ei z from by rw [zOne1, if_neg (not_not_intro hf), if_neg (ne1 hf), if_neg (ne2 hf), if_neg n45, if_pos z40, if_pos ho]) R109
set_option maxHeartbeats 400000 in
set_option maxRecDepth 100000 in
theorem r_readNot (G : Gt) (m : Nat → Prop) (M0 : Nat → va_E) (Q : Qt) (S : MS) (t n d d1 : Nat) (dn sm : PZ → PZ) (hG : TP G S t) (hd : 9 ≤ d) (hd1 : d1 ≤ d) (h1 : FOK t n dn) (h2 : FOK t (n + 1) sm) (hR1 : CR G m M0 Q S t n d1 Y7_readNot dn) (hS : CC G m M0 Q S t (n + 1) d Y7_readSum sm) : CC G m M0 Q S t (n + 1) (d + 1) Y7_readNot (zDen1 (S 14) t dn sm) := by
  intro z T hR hz hn
  show PC G (CPic G m M0 Q) (d + 1) Y7_readNot [.ref (Q.1 9 0)] T 0 0 (rv (fun S' => RDL S S' (zDen1 (S 14) t dn sm z)))
  refine pc_of (ls := [some (.ref (Q.1 9 0))]) (by decide +kernel) rfl (Nat.le_of_ble_eq_true rfl) ?_
  refine px_aload_n dX7_readNot_0 rfl rfl ?_
  refine cx_get (k := 9) (i := 0) (f := 3) dX7_readNot_1 gX7_45 rfl Nat.one_pos rfl ?_
  refine px_sipush (v := 267) dX7_readNot_4 (by decide) ?_
  refine px_icmp_ne (tgt := 38) dX7_readNot_7 (by decide) (fun H7 => ?_) (fun H7 => ?_)
  · skip
    have nk : ¬ zKy z 15 = true := fun q => H7 ((rl_key (k := 15) (by decide) (by decide) hR).mpr q)
    have hg := h2 z hz hn
    refine px_aload_n dX7_readNot_38 rfl rfl ?_
    refine cx_callV0 (k := 9) (i := 0) dX7_readNot_39 lX7_79 rfl Nat.one_pos rfl (hS z T hR hz hn) (by omega) (Nat.le_of_ble_eq_true rfl) (fun S39 Q39 => ?_)
    skip
    refine px_aload_n dX7_readNot_42 rfl rfl ?_
    refine px_bipush (v := 60) dX7_readNot_43 (by decide) ?_
    refine cx_callI1 (k := 9) (i := 0) dX7_readNot_45 lX7_65 rfl Nat.one_pos rfl (c_X7_accept G m M0 Q S39 S t (sm z) 60 (zSg (sm z) 60) hG Q39 (rl_sg (by decide) Q39) (fun q => (sg_y q).1) hg.1.2.1) (by omega) (Nat.le_of_ble_eq_true rfl) (fun x45 S45 Q45 => ?_)
    obtain ⟨rfl, R45⟩ := Q45
    refine px_if_eq (tgt := 64) dX7_readNot_48 (by decide) (fun H48 => ?_) (fun H48 => ?_)
    · skip
      rw [bI_0] at H48
      rw [if_neg H48] at R45
      refine px_aload_n dX7_readNot_64 rfl rfl ?_
      refine px_bipush (v := 61) dX7_readNot_65 (by decide) ?_
      refine cx_callI1 (k := 9) (i := 0) dX7_readNot_67 lX7_65 rfl Nat.one_pos rfl (c_X7_accept G m M0 Q S45 S t (sm z) 61 (zSg (sm z) 61) hG R45 (rl_sg (by decide) R45) (fun q => (sg_y q).1) hg.1.2.1) (by omega) (Nat.le_of_ble_eq_true rfl) (fun x67 S67 Q67 => ?_)
      obtain ⟨rfl, R67⟩ := Q67
      refine px_if_eq (tgt := 83) dX7_readNot_70 (by decide) (fun H70 => ?_) (fun H70 => ?_)
      · skip
        rw [bI_0] at H70
        rw [if_neg H70] at R67
        have R9 := rl_cg (show sm z = zDen1 (S 14) t dn sm z from by rw [zDen1, if_neg nk, if_neg (fun q => q.elim H48 H70)]) R67
        refine px_return dX7_readNot_83 rfl ?_
        first
        | exact R9
        | exact rl_cg (show zW z = zDen1 (S 14) t dn sm z from by rw [zDen1, if_pos zk, if_pos ho]) R11
      · skip
        rw [bI_0] at H70
        have z61 := Decidable.not_not.mp H70
        rw [if_pos z61] at R67
        have hs := (sg_y z61).2.1
        have hzv := (sg_y z61).2.2
        obtain ⟨q1, q2, q3, q4⟩ := turn_g (tp := S 14) (c := (zV (sm z), 0)) h2 hg.1 (hg.n hn) (Or.inr (Or.inr hs))
        have hE : zDen1 (S 14) t dn sm z = zAd (sm (zN (S 14) t (sm z))) (zV (sm z), 0) := by rw [zDen1, if_neg nk, if_pos (Or.inr z61)]
        refine px_aload_n dX7_readNot_73 rfl rfl ?_
        refine cx_callV0 (k := 9) (i := 0) dX7_readNot_74 lX7_79 rfl Nat.one_pos rfl (hS (zN (S 14) t (sm z)) S67 R67 (zN_i hg.1) (hg.n hn)) (by omega) (Nat.le_of_ble_eq_true rfl) (fun S74 Q74 => ?_)
        skip
        refine px_aload_n dX7_readNot_77 rfl rfl ?_
        refine px_bipush (v := (-16)) dX7_readNot_78 (by decide) ?_
        refine cx_callV1 (k := 9) (i := 0) dX7_readNot_80 lX7_69 rfl Nat.one_pos rfl (r_emit G m M0 Q S S74 (sm (zN (S 14) t (sm z))) (zV (sm z), 0) (-16) (fun _ => by rw [hzv]; rfl) Q74 (fun _ => by have := q1.1.1; have := q1.1.2.1; have := q1.1.2.2.1; omega)) (by omega) (Nat.le_of_ble_eq_true rfl) (fun S80 Q80 => ?_)
        have R9 := rl_cg hE.symm Q80
        refine px_return dX7_readNot_83 rfl ?_
        first
        | exact R9
        | exact rl_cg (show zW z = zDen1 (S 14) t dn sm z from by rw [zDen1, if_pos zk, if_pos ho]) R11
    · skip
      rw [bI_0] at H48
      have z60 := Decidable.not_not.mp H48
      rw [if_pos z60] at R45
      have hs := (sg_y z60).2.1
      have hzv := (sg_y z60).2.2
      obtain ⟨q1, q2, q3, q4⟩ := turn_g (tp := S 14) (c := (zV (sm z), 0)) h2 hg.1 (hg.n hn) (Or.inr (Or.inr hs))
      have hE : zDen1 (S 14) t dn sm z = zAd (sm (zN (S 14) t (sm z))) (zV (sm z), 0) := by rw [zDen1, if_neg nk, if_pos (Or.inl z60)]
      refine px_aload_n dX7_readNot_51 rfl rfl ?_
      refine cx_callV0 (k := 9) (i := 0) dX7_readNot_52 lX7_79 rfl Nat.one_pos rfl (hS (zN (S 14) t (sm z)) S45 R45 (zN_i hg.1) (hg.n hn)) (by omega) (Nat.le_of_ble_eq_true rfl) (fun S52 Q52 => ?_)
      skip
      refine px_aload_n dX7_readNot_55 rfl rfl ?_
      refine px_bipush (v := (-15)) dX7_readNot_56 (by decide) ?_
      refine cx_callV1 (k := 9) (i := 0) dX7_readNot_58 lX7_69 rfl Nat.one_pos rfl (r_emit G m M0 Q S S52 (sm (zN (S 14) t (sm z))) (zV (sm z), 0) (-15) (fun _ => by rw [hzv]; rfl) Q52 (fun _ => by have := q1.1.1; have := q1.1.2.1; have := q1.1.2.2.1; omega)) (by omega) (Nat.le_of_ble_eq_true rfl) (fun S58 Q58 => ?_)
      have R9 := rl_cg hE.symm Q58
      refine px_goto (tgt := 83) dX7_readNot_61 (by decide) ?_
      refine px_return dX7_readNot_83 rfl ?_
      first
      | exact R9
      | exact rl_cg (show zW z = zDen1 (S 14) t dn sm z from by rw [zDen1, if_pos zk, if_pos ho]) R11
  · skip
    have zk : zKy z 15 = true := (rl_key (k := 15) (by decide) (by decide) hR).mp H7
    have hf := (ky_y zk).1
    refine px_aload_n dX7_readNot_10 rfl rfl ?_
    refine cx_callI0 (k := 9) (i := 0) dX7_readNot_11 lX7_75 rfl Nat.one_pos rfl (c_X7_opened G m M0 Q T S t z hG hR hf hz) (by omega) (Nat.le_of_ble_eq_true rfl) (fun x11 S11 Q11 => ?_)
    obtain ⟨rfl, R11⟩ := Q11
    refine px_if_eq (tgt := 37) dX7_readNot_14 (by decide) (fun H14 => ?_) (fun H14 => ?_)
    · skip
      have ho : zO z = 5 := by
        by_cases e : zO z = 5
        · exact e
        · rw [bI_0] at H14; exact absurd (decide_eq_true e) H14
      rw [zOp, if_pos ho] at R11
      refine px_return dX7_readNot_37 rfl ?_
      first
      | exact R9
      | exact rl_cg (show zW z = zDen1 (S 14) t dn sm z from by rw [zDen1, if_pos zk, if_pos ho]) R11
    · skip
      have ho : ¬ zO z = 5 := by intro e; rw [e] at H14; exact H14 rfl
      rw [zOp, if_neg ho] at R11
      obtain ⟨k1, k2, k3, k4, k5, k6, k7, k8, k9⟩ := opn_g (tp := S 14) h1 hz hf (hn hf) (Or.inl (ky_y zk).2.1) ho
      refine px_aload_n dX7_readNot_17 rfl rfl ?_
      refine cx_callV0 (k := 9) (i := 0) dX7_readNot_18 lX7_72 rfl Nat.one_pos rfl (hR1 _ S11 R11 k1 hf (k2 hf)) (by omega) (Nat.le_of_ble_eq_true rfl) (fun S18 Q18 => ?_)
      skip
      refine px_aload_n dX7_readNot_21 rfl rfl ?_
      refine px_dup dX7_readNot_22 rfl ?_
      refine cx_get (k := 9) (i := 0) (f := 7) dX7_readNot_23 gX7_29 rfl Nat.one_pos rfl ?_
      refine px_iconst (v := 1) dX7_readNot_26 (by decide) ?_
      refine px_isub dX7_readNot_27 ?_
      refine cx_put (k := 9) (i := 0) (f := 7) (r := 62) (j := 5) dX7_readNot_28 gX7_29 rfl Nat.one_pos (Nat.le_of_ble_eq_true rfl) (by decide) rfl (cpe_9_7 0 _) rfl rfl ?_
      have R28 := r_open S S18 (dn (zN (S 14) t (zI z))) Q18 (fun _ => k4) rfl
      generalize up2 S18 62 5 (S18 62 5 - 1) = S28 at R28 ⊢
      refine px_aload_n dX7_readNot_31 rfl rfl ?_
      refine px_bipush (v := (-11)) dX7_readNot_32 (by decide) ?_
      refine cx_callV1 (k := 9) (i := 0) dX7_readNot_34 lX7_69 rfl Nat.one_pos rfl (r_emit G m M0 Q S S28 (zD (dn (zN (S 14) t (zI z)))) (3, 0) (-11) (fun _ => rfl) R28 (fun _ => show (zL (dn (zN (S 14) t (zI z)))).length < 160 from by have := k3.1; have := k3.2.1; have := k3.2.2.1; omega)) (by omega) (Nat.le_of_ble_eq_true rfl) (fun S34 Q34 => ?_)
      have R9 := rl_cg (show zAd (zD _) (3, 0) = zDen1 (S 14) t dn sm z from by rw [zDen1, if_pos zk, if_neg ho]) Q34
      refine px_return dX7_readNot_37 rfl ?_
      first
      | exact R9
      | exact rl_cg (show zW z = zDen1 (S 14) t dn sm z from by rw [zDen1, if_pos zk, if_pos ho]) R11
theorem CC.r {G : Gt} {m : Nat → Prop} {M0 : Nat → va_E} {Q : Qt} {S : MS} {t n d : Nat} {Y : Yt} {F : PZ → PZ} (h : CC G m M0 Q S t n d Y F) : CR G m M0 Q S t n d Y F := fun z T hR hz hf hn => h z T hR hz (fun _ => hn)
theorem CR0 {G : Gt} {m : Nat → Prop} {M0 : Nat → va_E} {Q : Qt} {S : MS} {t d : Nat} {Y : Yt} {F : PZ → PZ} : CR G m M0 Q S t 0 d Y F := fun z T hR hz hf hn => absurd (hz.2.2.2.2.2.2 hf) (by omega)
/-- all readers, at each level -/
theorem r_all6 (G : Gt) (m : Nat → Prop) (M0 : Nat → va_E) (Q : Qt) (S : MS) (t : Nat) (hG : TP G S t) : ∀ n, CR G m M0 Q S t n (10 + 6 * n) Y7_readOne (zP (S 14) t n).1 ∧ CR G m M0 Q S t n (10 + 6 * n + 3) Y7_readNot (zP (S 14) t n).2 ∧ CC G m M0 Q S t (n + 1) (10 + 6 * n + 11) Y7_readE (zEi (S 14) t (zP (S 14) t (n + 1)).2) ∧ CR G m M0 Q S t n (10 + 6 * n + 5) Y7_readE (zEi (S 14) t (zP (S 14) t n).2) := by
  have stp : ∀ n, (CR G m M0 Q S t n (10 + 6 * n) Y7_readOne (zP (S 14) t n).1 ∧ CR G m M0 Q S t n (10 + 6 * n + 3) Y7_readNot (zP (S 14) t n).2 ∧ CR G m M0 Q S t n (10 + 6 * n + 5) Y7_readE (zEi (S 14) t (zP (S 14) t n).2)) → (CR G m M0 Q S t (n + 1) (10 + 6 * (n + 1)) Y7_readOne (zP (S 14) t (n + 1)).1 ∧ CR G m M0 Q S t (n + 1) (10 + 6 * (n + 1) + 3) Y7_readNot (zP (S 14) t (n + 1)).2 ∧ CC G m M0 Q S t (n + 1) (10 + 6 * n + 11) Y7_readE (zEi (S 14) t (zP (S 14) t (n + 1)).2)) := by
    rintro n ⟨i1, i2, i3⟩
    have g := zP_g (S 14) t n
    have g' := zP_g (S 14) t (n + 1)
    have c1 : CC G m M0 Q S t (n + 1) (10 + 6 * n + 5 + 1) Y7_readOne (zP (S 14) t (n + 1)).1 := r_readOne G m M0 Q S t n (10 + 6 * n + 5) _ _ _ _ hG (by omega) (by omega) (by omega) g.1 (zEi_g g.2) i1 i3
    have c2 := r_readTerm G m M0 Q S t (n + 1) (10 + 6 * n + 5 + 1) _ hG (by omega) g'.1 c1
    have c3 := r_readSum G m M0 Q S t (n + 1) (10 + 6 * n + 5 + 1 + 1) _ hG (by omega) g'.1 c2
    have c4 : CC G m M0 Q S t (n + 1) (10 + 6 * n + 5 + 1 + 1 + 1 + 1) Y7_readNot (zP (S 14) t (n + 1)).2 := r_readNot G m M0 Q S t n (10 + 6 * n + 5 + 1 + 1 + 1) _ _ _ hG (by omega) (by omega) g.2 (zSum_g g'.1) i2 c3
    have c5 := r_readAnd G m M0 Q S t (n + 1) (10 + 6 * n + 5 + 1 + 1 + 1 + 1) _ hG (by omega) g'.2 c4
    have c6 := r_readE G m M0 Q S t (n + 1) (10 + 6 * n + 5 + 1 + 1 + 1 + 1 + 1) _ hG (by omega) g'.2 c5
    exact ⟨c1.r, c4.r, c6⟩
  have all : ∀ n, CR G m M0 Q S t n (10 + 6 * n) Y7_readOne (zP (S 14) t n).1 ∧ CR G m M0 Q S t n (10 + 6 * n + 3) Y7_readNot (zP (S 14) t n).2 ∧ CR G m M0 Q S t n (10 + 6 * n + 5) Y7_readE (zEi (S 14) t (zP (S 14) t n).2) := by
    intro n
    induction n with
    | zero => exact ⟨CR0, CR0, CR0⟩
    | succ n ih => exact ⟨(stp n ih).1, (stp n ih).2.1, (stp n ih).2.2.r⟩
  intro n
  exact ⟨(all n).1, (all n).2.1, (stp n (all n)).2.2, (all n).2.2⟩
theorem r_E6 (G : Gt) (m : Nat → Prop) (M0 : Nat → va_E) (Q : Qt) (S : MS) (t : Nat) (hG : TP G S t) : CC G m M0 Q S t 6 51 Y7_readE (zE6 (S 14) t) := (r_all6 G m M0 Q S t hG 5).2.2.1
