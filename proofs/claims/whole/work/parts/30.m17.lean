/-! THE REFERENCE: rule, text -/
/-- the reader of a whole: with five tokens open at most -/
def zE6 (tp : Nat → Int32) (t : Nat) : PZ → PZ := zEi tp t (zP tp t 6).2
theorem zE6_g {tp : Nat → Int32} {t : Nat} : FOK t 6 (zE6 tp t) := zEi_g (zP_g tp t 6).2
def zR (tp : Nat → Int32) (t : Nat) (x : Int32) (z : PZ) : PZ := if zKy z x = true then (if zSg (zE6 tp t (zN tp t z)) 59 = true then zN tp t (zE6 tp t (zN tp t z)) else zW (zE6 tp t (zN tp t z))) else zW z
def zRd (tp : Nat → Int32) (t : Nat) (x : Int32) (z : PZ) : Prop := zKy z x = true ∧ zSg (zE6 tp t (zN tp t z)) 59 = true
/-- where the rule ends: field 20 -/
def zRb (tp : Nat → Int32) (t : Nat) (x : Int32) (z : PZ) (S : MS) (i : Nat) : MS := if zKy z x = true ∧ zSg (zE6 tp t (zN tp t z)) 59 = true then up2 S 20 (18 + i) (nI (zL (zE6 tp t (zN tp t z))).length) else S
theorem lay_20 {S : MS} {z : PZ} {i : Nat} {x : Int32} : up2 (layz S z) 20 i x = layz (up2 S 20 i x) z := by
  funext k
  by_cases e : k = 20
  · subst e
    rw [up2_eq]
    show upd (S 20) i x = up2 S 20 i x 20
    rw [up2_eq]
  · rw [up2_ne e]
    simp only [layz, lay, up2_ne (show (24 : Nat) ≠ 20 by decide), up2_ne (show (25 : Nat) ≠ 20 by decide), up2_ne (show (26 : Nat) ≠ 20 by decide), up2_ne (show (27 : Nat) ≠ 20 by decide), up2_ne (show (22 : Nat) ≠ 20 by decide), up2_ne (show (23 : Nat) ≠ 20 by decide), up2_ne (show (21 : Nat) ≠ 20 by decide), up2_ne (show (18 : Nat) ≠ 20 by decide), up2_ne (show (19 : Nat) ≠ 20 by decide), up2_ne e]
theorem lay_15 {S : MS} {z : PZ} {i : Nat} {x : Int32} : up2 (layz S z) 15 i x = layz (up2 S 15 i x) z := by
  funext k
  by_cases e : k = 15
  · subst e
    rw [up2_eq]
    show upd (S 15) i x = up2 S 15 i x 15
    rw [up2_eq]
  · rw [up2_ne e]
    simp only [layz, lay, up2_ne (show (24 : Nat) ≠ 15 by decide), up2_ne (show (25 : Nat) ≠ 15 by decide), up2_ne (show (26 : Nat) ≠ 15 by decide), up2_ne (show (27 : Nat) ≠ 15 by decide), up2_ne (show (22 : Nat) ≠ 15 by decide), up2_ne (show (23 : Nat) ≠ 15 by decide), up2_ne (show (21 : Nat) ≠ 15 by decide), up2_ne (show (18 : Nat) ≠ 15 by decide), up2_ne (show (19 : Nat) ≠ 15 by decide), up2_ne e]
set_option maxHeartbeats 4000000 in
set_option maxRecDepth 100000 in
theorem m_rule (G : Gt) (m : Nat) (h0 : Ht) (S : MS) (t i : Nat) (z : PZ) (hi : i < 3) (hT : S 15 0 = nI t) (hz : Zi t z) (hf : zF z < 0) (ho : zO z = 0) : PC G (MPic G m h0) 48 Y12_rule [.ref m, .int (nI i)] (layz S z) 0 0 (rv (fun S' => S' = layz (zRb (S 14) t (10 + nI i) z S i) (zR (S 14) t (10 + nI i) z))) := by
  refine pc_of (ls := [some (.ref m), some (.int (nI i))]) (by decide +kernel) rfl (Nat.le_of_ble_eq_true rfl) ?_
  refine px_aload_n dX12_rule_0 rfl rfl ?_
  refine px_bipush (v := 10) dX12_rule_1 (by decide) ?_
  refine px_iload_n dX12_rule_3 rfl rfl ?_
  refine px_iadd dX12_rule_4 ?_
  refine mx_callI1 dX12_rule_5 lX12_196 rfl (m_key G m h0 S t z (10 + nI i) hz) (by omega) (Nat.le_of_ble_eq_true rfl) (fun x5 S5 Q5 => ?_)
  obtain ⟨rfl, e5⟩ := Q5
  obtain rfl := e5.symm
  refine px_if_ne (tgt := 16) dX12_rule_8 (by decide) (fun H8 => ?_) (fun H8 => ?_)
  · skip
    rw [bI_0] at H8
    have H8 := Decidable.not_not.mp H8
    have hg := zE6_g (tp := S 14) (t := t) (zN (S 14) t z) (zN_i hz) (fun _ => by show 6 ≤ zO z + 6; omega)
    refine px_aload_n dX12_rule_16 rfl rfl ?_
    refine mx_callV0 dX12_rule_17 lX12_190 rfl (m_next G m h0 S t z hT hz) (by omega) (Nat.le_of_ble_eq_true rfl) (fun S17 Q17 => ?_)
    obtain rfl := Q17.symm
    refine px_aload_n dX12_rule_20 rfl rfl ?_
    refine mx_callV0 dX12_rule_21 lX12_222 rfl ((m_all6 G m h0 S t hT 6).2.2 (zN (S 14) t z) (zN_i hz) hf (by omega)) (by omega) (Nat.le_of_ble_eq_true rfl) (fun S21 Q21 => ?_)
    obtain rfl := Q21.symm
    refine px_aload_n dX12_rule_24 rfl rfl ?_
    refine px_bipush (v := 59) dX12_rule_25 (by decide) ?_
    refine mx_callI1 dX12_rule_27 lX12_213 rfl (m_sign G m h0 S t (zE6 (S 14) t (zN (S 14) t z)) 59 hg.1) (by omega) (Nat.le_of_ble_eq_true rfl) (fun x27 S27 Q27 => ?_)
    obtain ⟨rfl, e27⟩ := Q27
    obtain rfl := e27.symm
    refine px_if_ne (tgt := 38) dX12_rule_30 (by decide) (fun H30 => ?_) (fun H30 => ?_)
    · skip
      rw [bI_0] at H30
      have H30 := Decidable.not_not.mp H30
      refine px_aload_n dX12_rule_38 rfl rfl ?_
      refine mx_callV0 dX12_rule_39 lX12_190 rfl (m_next G m h0 S t (zE6 (S 14) t (zN (S 14) t z)) hT hg.1) (by omega) (Nat.le_of_ble_eq_true rfl) (fun S39 Q39 => ?_)
      obtain rfl := Q39.symm
      refine px_aload_n dX12_rule_42 rfl rfl ?_
      refine mx_getA (k := 20) (j := 14) dX12_rule_43 gX12_58 (fun _ => rfl) ?_
      refine px_bipush (v := 18) dX12_rule_46 (by decide) ?_
      refine px_iload_n dX12_rule_48 rfl rfl ?_
      refine px_iadd dX12_rule_49 ?_
      refine px_aload_n dX12_rule_50 rfl rfl ?_
      refine mx_getI (k := 21) dX12_rule_51 gX12_181 (fun _ => rfl) ?_
      refine mx_iast (j := 14) (k := 20) (18 + i) dX12_rule_54 rfl (show (18 : Int32) + nI i = nI (18 + i) from by rw [show (18 : Int32) = nI 18 from rfl, nI_add]) (by omega) (by decide) ?_
      refine px_S (S' := layz (up2 S 20 (18 + i) (nI (zL (zE6 (S 14) t (zN (S 14) t z))).length)) (zN (S 14) t (zE6 (S 14) t (zN (S 14) t z)))) lay_20 ?_
      refine px_return dX12_rule_55 rfl ?_
      show layz _ _ = layz _ _
      simp [zRb, zR, H8] <;> simp [H30]
    · skip
      rw [bI_0] at H30
      refine px_aload_n dX12_rule_33 rfl rfl ?_
      refine mx_callV0 dX12_rule_34 lX12_187 rfl (m_wrong G m h0 S (zE6 (S 14) t (zN (S 14) t z))) (by omega) (Nat.le_of_ble_eq_true rfl) (fun S34 Q34 => ?_)
      obtain rfl := Q34.symm
      refine px_return dX12_rule_37 rfl ?_
      show layz _ _ = layz _ _
      simp [zRb, zR, H8] <;> simp [H30]
  · skip
    rw [bI_0] at H8
    refine px_aload_n dX12_rule_11 rfl rfl ?_
    refine mx_callV0 dX12_rule_12 lX12_187 rfl (m_wrong G m h0 S z) (by omega) (Nat.le_of_ble_eq_true rfl) (fun S12 Q12 => ?_)
    obtain rfl := Q12.symm
    refine px_return dX12_rule_15 rfl ?_
    show layz _ _ = layz _ _
    simp [zRb, zR, H8] <;> simp [H30]
