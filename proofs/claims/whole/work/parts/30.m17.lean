/-! THE REFERENCE: rule, text -/
/-- the reader of a whole: with five tokens open at most -/
def zE6 (tp : Nat → Int32) (t : Nat) : PZ → PZ := zEi tp t (zP tp t 6).2
theorem zE6_g {tp : Nat → Int32} {t : Nat} : FOK t 6 (zE6 tp t) := zEi_g (zP_g tp t 6).2
def zR (tp : Nat → Int32) (t : Nat) (x : Int32) (z : PZ) : PZ := if zKy z x = true then (if zSg (zE6 tp t (zN tp t z)) 59 = true then zN tp t (zE6 tp t (zN tp t z)) else zW (zE6 tp t (zN tp t z))) else zW z
def zRd (tp : Nat → Int32) (t : Nat) (x : Int32) (z : PZ) : Prop := zKy z x = true ∧ zSg (zE6 tp t (zN tp t z)) 59 = true
/-- where the rule ends: field 20 -/
def zRb (tp : Nat → Int32) (t : Nat) (x : Int32) (z : PZ) (S : MS) (i : Nat) : MS := if zKy z x = true ∧ zSg (zE6 tp t (zN tp t z)) 59 = true then up2 S 20 (18 + i) (nI (zL (zE6 tp t (zN tp t z))).length) else S
theorem lay_20 {S : MS} {z : PZ} {i : Nat} {x : Int32} : up2 (layz S z) 20 i x = layz (up2 S 20 i x) z := by
  funext k
  by_cases e : k = 20
  · subst e
    rw [up2_eq]
    show upd (S 20) i x = up2 S 20 i x 20
    rw [up2_eq]
  · rw [up2_ne e]
    simp only [layz, lay, up2_ne (show (24 : Nat) ≠ 20 by decide), up2_ne (show (25 : Nat) ≠ 20 by decide), up2_ne (show (26 : Nat) ≠ 20 by decide), up2_ne (show (27 : Nat) ≠ 20 by decide), up2_ne (show (22 : Nat) ≠ 20 by decide), up2_ne (show (23 : Nat) ≠ 20 by decide), up2_ne (show (21 : Nat) ≠ 20 by decide), up2_ne (show (18 : Nat) ≠ 20 by decide), up2_ne (show (19 : Nat) ≠ 20 by decide), up2_ne e]
theorem lay_15 {S : MS} {z : PZ} {i : Nat} {x : Int32} : up2 (layz S z) 15 i x = layz (up2 S 15 i x) z := by
  funext k
  by_cases e : k = 15
  · subst e
    rw [up2_eq]
    show upd (S 15) i x = up2 S 15 i x 15
    rw [up2_eq]
  · rw [up2_ne e]
    simp only [layz, lay, up2_ne (show (24 : Nat) ≠ 15 by decide), up2_ne (show (25 : Nat) ≠ 15 by decide), up2_ne (show (26 : Nat) ≠ 15 by decide), up2_ne (show (27 : Nat) ≠ 15 by decide), up2_ne (show (22 : Nat) ≠ 15 by decide), up2_ne (show (23 : Nat) ≠ 15 by decide), up2_ne (show (21 : Nat) ≠ 15 by decide), up2_ne (show (18 : Nat) ≠ 15 by decide), up2_ne (show (19 : Nat) ≠ 15 by decide), up2_ne e]
theorem m_ei6 (G : Gt) (m : Nat) (h0 : Ht) (S : MS) (t : Nat) (hT : S 15 0 = nI t) : MR G m h0 S t 6 47 Y12_either (zE6 (S 14) t) := (m_all6 G m h0 S t hT 6).2.2
set_option maxHeartbeats 4000000 in
set_option maxRecDepth 100000 in
theorem m_rule (G : Gt) (m : Nat) (h0 : Ht) (S : MS) (t i : Nat) (z : PZ) (hi : i < 3) (hT : S 15 0 = nI t) (hz : Zi t z) (hf : zF z < 0) (ho : zO z = 0) : PC G (MPic G m h0) 48 Y12_rule [.ref m, .int (nI i)] (layz S z) 0 0 (rv (fun S' => S' = layz (zRb (S 14) t (10 + nI i) z S i) (zR (S 14) t (10 + nI i) z))) := by
  refine pc_of (ls := [some (.ref m), some (.int (nI i))]) (by decide +kernel) rfl (Nat.le_of_ble_eq_true rfl) ?_
  refine px_aload_n dX12_rule_0 rfl rfl ?_
  refine px_bipush (v := 10) dX12_rule_1 (by decide) ?_
  refine px_iload_n dX12_rule_3 rfl rfl ?_
  refine px_iadd dX12_rule_4 ?_
  refine mx_callI1 dX12_rule_5 lX12_196 rfl (m_key G m h0 S t z (10 + nI i) hz) (by omega) (Nat.le_of_ble_eq_true rfl) (fun x5 S5 Q5 => ?_)
  obtain ⟨rfl, e5⟩ := Q5
  obtain rfl := e5.symm
  refine px_if_ne (tgt := 16) dX12_rule_8 (by decide) (fun H8 => ?_) (fun H8 => ?_)
  · skip
    rw [bI_0] at H8
    have H8 := Decidable.not_not.mp H8
    have hg := zE6_g (tp := S 14) (t := t) (zN (S 14) t z) (zN_i hz) (fun _ => by show 6 ≤ zO z + 6; omega)
    refine px_aload_n dX12_rule_16 rfl rfl ?_
    refine mx_callV0 dX12_rule_17 lX12_190 rfl (m_next G m h0 S t z hT hz) (by omega) (Nat.le_of_ble_eq_true rfl) (fun S17 Q17 => ?_)
    obtain rfl := Q17.symm
    refine px_aload_n dX12_rule_20 rfl rfl ?_
    refine mx_callV0 dX12_rule_21 lX12_222 rfl (m_ei6 G m h0 S t hT (zN (S 14) t z) (zN_i hz) hf (show 6 ≤ zO z + 6 from by omega)) (by omega) (Nat.le_of_ble_eq_true rfl) (fun S21 Q21 => ?_)
    obtain rfl := Q21.symm
    refine px_aload_n dX12_rule_24 rfl rfl ?_
    refine px_bipush (v := 59) dX12_rule_25 (by decide) ?_
    refine mx_callI1 dX12_rule_27 lX12_213 rfl (m_sign G m h0 S t (zE6 (S 14) t (zN (S 14) t z)) 59 hg.1) (by omega) (Nat.le_of_ble_eq_true rfl) (fun x27 S27 Q27 => ?_)
    obtain ⟨rfl, e27⟩ := Q27
    obtain rfl := e27.symm
    refine px_if_ne (tgt := 38) dX12_rule_30 (by decide) (fun H30 => ?_) (fun H30 => ?_)
    · skip
      rw [bI_0] at H30
      have H30 := Decidable.not_not.mp H30
      refine px_aload_n dX12_rule_38 rfl rfl ?_
      refine mx_callV0 dX12_rule_39 lX12_190 rfl (m_next G m h0 S t (zE6 (S 14) t (zN (S 14) t z)) hT hg.1) (by omega) (Nat.le_of_ble_eq_true rfl) (fun S39 Q39 => ?_)
      obtain rfl := Q39.symm
      refine px_aload_n dX12_rule_42 rfl rfl ?_
      refine mx_getA (k := 20) (j := 14) dX12_rule_43 gX12_58 (fun _ => rfl) ?_
      refine px_bipush (v := 18) dX12_rule_46 (by decide) ?_
      refine px_iload_n dX12_rule_48 rfl rfl ?_
      refine px_iadd dX12_rule_49 ?_
      refine px_aload_n dX12_rule_50 rfl rfl ?_
      refine mx_getI (k := 21) dX12_rule_51 gX12_181 (fun _ => rfl) ?_
      refine mx_iast (j := 14) (k := 20) (18 + i) dX12_rule_54 rfl (show (18 : Int32) + nI i = nI (18 + i) from by rw [show (18 : Int32) = nI 18 from rfl, nI_add]) (by omega) (by decide) ?_
      refine px_S (S' := layz (up2 S 20 (18 + i) (nI (zL (zE6 (S 14) t (zN (S 14) t z))).length)) (zN (S 14) t (zE6 (S 14) t (zN (S 14) t z)))) lay_20 ?_
      refine px_return dX12_rule_55 rfl ?_
      show layz _ _ = layz _ _
      simp [zRb, zR, H8] <;> simp [H30]
    · skip
      rw [bI_0] at H30
      refine px_aload_n dX12_rule_33 rfl rfl ?_
      refine mx_callV0 dX12_rule_34 lX12_187 rfl (m_wrong G m h0 S (zE6 (S 14) t (zN (S 14) t z))) (by omega) (Nat.le_of_ble_eq_true rfl) (fun S34 Q34 => ?_)
      obtain rfl := Q34.symm
      refine px_return dX12_rule_37 rfl ?_
      show layz _ _ = layz _ _
      simp [zRb, zR, H8] <;> simp [H30]
  · skip
    rw [bI_0] at H8
    refine px_aload_n dX12_rule_11 rfl rfl ?_
    refine mx_callV0 dX12_rule_12 lX12_187 rfl (m_wrong G m h0 S z) (by omega) (Nat.le_of_ble_eq_true rfl) (fun S12 Q12 => ?_)
    obtain rfl := Q12.symm
    refine px_return dX12_rule_15 rfl ?_
    show layz _ _ = layz _ _
    simp [zRb, zR, H8] <;> simp [H30]
theorem zR_g {tp : Nat → Int32} {t : Nat} {x : Int32} {z : PZ} (hz : Zi t z) (ho : zF z < 0 → zO z = 0) : Zg t z (zR tp t x z) := by
  unfold zR
  by_cases e : zKy z x = true
  · rw [if_pos e]
    have hf := (ky_y e).1
    have ho := ho hf
    obtain ⟨q1, q2, q3, q4, q5⟩ := zN_g (tp := tp) hz (Or.inl (ky_y e).2.1)
    have gN : Zg t z (zN tp t z) := ⟨q1, by omega, by rw [q3]; omega, by rw [q4]; exact Nat.le_refl _, fun _ => ⟨hf, q4⟩⟩
    have g := gN.tr (zE6_g (tp := tp) (t := t) (zN tp t z) q1 (fun _ => by rw [q4]; omega))
    by_cases e2 : zSg (zE6 tp t (zN tp t z)) 59 = true
    · rw [if_pos e2]
      obtain ⟨r1, r2, r3, r4, r5⟩ := zN_g (tp := tp) g.1 (Or.inr (Or.inr (sg_y e2).2.1))
      exact g.tr ⟨r1, by omega, by rw [r3]; omega, by rw [r4]; exact Nat.le_refl _, fun q => ⟨by rw [r5] at q; exact q, r4⟩⟩
    · rw [if_neg e2]
      exact g.tr (zW_g g.1)
  · rw [if_neg e]
    exact zW_g hz
theorem zRb_ne {tp : Nat → Int32} {t : Nat} {x : Int32} {z : PZ} {S : MS} {i k : Nat} (h : k ≠ 20) : zRb tp t x z S i k = S k := by
  unfold zRb
  split
  · exact up2_ne h
  · rfl
/-- the first rules: what is kept, and the reading -/
def tx (S : MS) (t : Nat) (z : PZ) : Nat → MS × PZ
  | 0 => (S, z)
  | i + 1 => if zF (tx S t z i).2 < 0 then (zRb (S 14) t (10 + nI i) (tx S t z i).2 (tx S t z i).1 i, zR (S 14) t (10 + nI i) (tx S t z i).2) else tx S t z i
theorem tx_ne {S : MS} {t : Nat} {z : PZ} {k : Nat} (h : k ≠ 20) : ∀ i, (tx S t z i).1 k = S k
  | 0 => rfl
  | i + 1 => by
    rw [tx]
    split
    · show zRb _ _ _ _ _ _ k = _
      rw [zRb_ne h, tx_ne h i]
    · exact tx_ne h i
theorem tx_g {S : MS} {t : Nat} {z : PZ} (hz : Zi t z) (ho : zO z = 0) : ∀ i, Zg t z (tx S t z i).2
  | 0 => Zg.rf hz
  | i + 1 => by
    have g := tx_g (S := S) hz ho i
    rw [tx]
    split
    · exact g.tr (zR_g g.1 (fun q => by rw [(g.2.2.2.2 q).2, ho]))
    · exact g
theorem tx_st {S : MS} {t : Nat} {z : PZ} {i : Nat} (h : ¬ zF (tx S t z i).2 < 0) : ∀ k, tx S t z (i + k) = tx S t z i
  | 0 => rfl
  | k + 1 => by
    rw [← Nat.add_assoc, tx, tx_st h k, if_neg h]
def cp (g : Nat → Int32) (b : Nat) (l : List Int32) : Nat → Int32 := fun i => if b ≤ i ∧ i < b + l.length then (l[i - b]?).getD 0 else g i
theorem cp_0 {g : Nat → Int32} {b : Nat} : cp g b [] = g := by
  funext i
  unfold cp
  exact if_neg (fun q => by have := q.2; simp only [List.length_nil] at this; omega)
theorem cp_s {g : Nat → Int32} {b : Nat} {l : List Int32} {x : Int32} : upd (cp g b l) (b + l.length) x = cp g b (l ++ [x]) := by
  funext i
  have el : (l ++ [x]).length = l.length + 1 := by rw [List.length_append]; rfl
  by_cases e : i = b + l.length
  · subst e
    rw [pk_us]
    unfold cp
    rw [if_pos ⟨by omega, by omega⟩, show b + l.length - b = l.length by omega]
    simp
  · rw [pk_un e]
    unfold cp
    by_cases h : b ≤ i ∧ i < b + l.length
    · rw [if_pos h, if_pos ⟨h.1, by omega⟩, List.getElem?_append_left (by omega)]
    · rw [if_neg h, if_neg (fun q => h ⟨q.1, by have := q.2; omega⟩)]
theorem cp_far {g : Nat → Int32} {b i : Nat} {l : List Int32} (h : b + l.length ≤ i) : cp g b l i = g i := if_neg (fun q => by have := q.2; omega)
def e3 (g : Nat → Int32) (q : Nat) : Nat → Nat → Int32
  | 0 => g
  | i + 1 => upd (e3 g q i) (3 * q + i) (e3 g q i (18 + i))
/-- the text is laid behind those there are -/
def tA (T : MS) (q : Nat) (L : List (Int32 × Int32)) : MS := setA (setA T 18 (cp (T 18) (170 * q) (L.map Prod.fst))) 19 (cp (T 19) (170 * q) (L.map Prod.snd))
def z00 (S : MS) : PZ := (0, 0, 0, S 27 0, -1, 0, [])
def txW (z : PZ) : PZ := if zF z < 0 ∧ ¬ zS z = 4 then zW z else z
def f_text (S : MS) : Int32 × MS :=
  if S 16 0 = 6 then (-4, S) else
  let t := (S 15 0).toNatClampNeg
  let q := (S 16 0).toNatClampNeg
  let r := tx S t (zN (S 14) t (z00 S)) 3
  let z := txW r.2
  let T := layz (up2 r.1 15 0 0) z
  if ¬ zF z < 0 then (-100 - zF z, T) else
  let T2 := tA T q (zL z)
  (nI q, up2 (setA T2 20 (e3 (T2 20) q 3)) 16 0 (nI (q + 1)))
