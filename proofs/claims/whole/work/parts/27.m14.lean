/-! a pure reader: from, to, sort, what, fault, open, steps -/
abbrev PZ : Type := Nat × Nat × Nat × Int32 × Int32 × Nat × List (Int32 × Int32)
def zA (z : PZ) : Nat := z.1
def zB (z : PZ) : Nat := z.2.1
def zS (z : PZ) : Nat := z.2.2.1
def zV (z : PZ) : Int32 := z.2.2.2.1
def zF (z : PZ) : Int32 := z.2.2.2.2.1
def zO (z : PZ) : Nat := z.2.2.2.2.2.1
def zL (z : PZ) : List (Int32 × Int32) := z.2.2.2.2.2.2
def layz (S : MS) (z : PZ) : MS := lay S (zA z) (zB z) (zS z) (zV z) (zF z) (zO z) (zL z)
def zN (tp : Nat → Int32) (t : Nat) (z : PZ) : PZ := (lxA tp t (zB z), lxB tp t (zB z), lxS tp t (zB z), lxV tp t (zB z) (zV z), zF z, zO z, zL z)
def zW (z : PZ) : PZ := (zA z, zB z, zS z, zV z, if zF z < 0 then nI (zA z) else zF z, zO z, zL z)
def zSg (z : PZ) (x : Int32) : Bool := decide (zF z < 0 ∧ zS z = 3 ∧ zV z = x)
def zKy (z : PZ) (x : Int32) : Bool := decide (zF z < 0 ∧ zS z = 1 ∧ zV z = x)
def zAd (z : PZ) (c : Int32 × Int32) : PZ := (zA z, zB z, zS z, zV z, zF z, zO z, zL z ++ [c])
def zI (z : PZ) : PZ := (zA z, zB z, zS z, zV z, zF z, zO z + 1, zL z)
def zD (z : PZ) : PZ := (zA z, zB z, zS z, zV z, zF z, zO z - 1, zL z)
def whl : Nat → (PZ → Bool) → (PZ → PZ) → PZ → PZ
  | 0, _, _, z => z
  | n + 1, c, g, z => if c z = true then whl n c g (g z) else z
section Zr
variable (tp : Nat → Int32) (t : Nat)
def zTerm (one : PZ → PZ) (z : PZ) : PZ := whl 161 (fun z => zSg z 42) (fun z => zAd (one (zN tp t z)) (42, 0)) (one z)
def zSum (one : PZ → PZ) (z : PZ) : PZ := whl 161 (fun z => zSg z 43 || zSg z 45) (fun z => zAd (zTerm tp t one (zN tp t z)) (zV z, 0)) (zTerm tp t one z)
def zAll (dn : PZ → PZ) (z : PZ) : PZ := whl 161 (fun z => zKy z 14) (fun z => zAd (dn (zN tp t z)) (6, 0)) (dn z)
def zEi (dn : PZ → PZ) (z : PZ) : PZ := whl 161 (fun z => zKy z 13) (fun z => zAd (zAll tp t dn (zN tp t z)) (5, 0)) (zAll tp t dn z)
def zOp (z : PZ) : PZ := if zO z = 5 then zW z else zN tp t (zI z)
def zOne1 (o1 ei : PZ → PZ) (z : PZ) : PZ := if ¬ zF z < 0 then z else if zS z = 2 then zN tp t (zAd z (1, zV z)) else if zS z = 1 ∧ zV z < 6 then zN tp t (zAd z (2, zV z)) else if zSg z 45 = true then (if zO z = 5 then zW z else zAd (zD (o1 (zN tp t (zI z)))) (4, 0)) else if zSg z 40 = true then (if zO z = 5 then zW z else if zSg (ei (zN tp t (zI z))) 41 = true then zN tp t (zD (ei (zN tp t (zI z)))) else zW (ei (zN tp t (zI z)))) else zW z
def zDen1 (dn sm : PZ → PZ) (z : PZ) : PZ := if zKy z 15 = true then (if zO z = 5 then zW z else zAd (zD (dn (zN tp t (zI z)))) (3, 0)) else if zSg (sm z) 60 = true ∨ zSg (sm z) 61 = true then zAd (sm (zN tp t (sm z))) (zV (sm z), 0) else sm z
def zP : Nat → (PZ → PZ) × (PZ → PZ)
  | 0 => (id, id)
  | n + 1 => (zOne1 tp t (zP n).1 (zEi tp t (zP n).2), zDen1 tp t (zP n).2 (zSum tp t (zOne1 tp t (zP n).1 (zEi tp t (zP n).2))))
end Zr
/-- what a reading holds to -/
def Zi (t : Nat) (z : PZ) : Prop := zA z ≤ zB z ∧ zB z ≤ t ∧ t ≤ 160 ∧ (zL z).length ≤ zA z ∧ (zS z = 1 ∨ zS z = 2 ∨ zS z = 3 → zA z < zB z) ∧ zS z ≤ 5 ∧ (zF z < 0 → zO z ≤ 5)
theorem lx_ok {tp : Nat → Int32} {t b : Nat} (hb : b ≤ t) : b ≤ lxA tp t b ∧ lxA tp t b ≤ lxB tp t b ∧ lxB tp t b ≤ t ∧ (lxS tp t b = 1 ∨ lxS tp t b = 2 ∨ lxS tp t b = 3 → lxA tp t b < lxB tp t b) ∧ lxS tp t b ≤ 5 := by
  have h1 : b ≤ lxA tp t b ∧ lxA tp t b ≤ t := rn_le _ b (Nat.le_refl _) hb
  unfold lxB lxS
  by_cases q : lxA tp t b < t
  · simp only [if_pos q]
    have hr : ∀ Pr : Nat → Bool, Pr (lxA tp t b) = true → lxA tp t b < rn Pr t (lxA tp t b) ∧ rn Pr t (lxA tp t b) ≤ t := fun Pr hp => by
      rw [rn_go q hp]
      have := rn_le (Pr := Pr) (t := t) _ (lxA tp t b + 1) (Nat.le_refl _) q
      omega
    by_cases ql : ltr tp (lxA tp t b) = true
    · simp only [if_pos ql]
      have := hr _ ql
      refine ⟨by omega, by omega, by omega, fun _ => by omega, by split <;> omega⟩
    · simp only [if_neg ql]
      by_cases qd : dgt tp (lxA tp t b) = true
      · simp only [if_pos qd]
        have := hr _ qd
        refine ⟨by omega, by omega, by omega, fun _ => by omega, by split <;> omega⟩
      · simp only [if_neg qd]
        refine ⟨by omega, by omega, by omega, fun _ => by omega, by split <;> omega⟩
  · simp only [if_neg q]
    exact ⟨by omega, by omega, by omega, fun h => by omega, by omega⟩
set_option maxHeartbeats 4000000 in
set_option maxRecDepth 100000 in
theorem c_X12_wrong (G : Gt) (m : Nat) (h0 : Ht) (S : MS) (a b s : Nat) (v f : Int32) (o : Nat) (L : List (Int32 × Int32))  : PC G (MPic G m h0) 1 Y12_wrong [.ref m] (lay S a b s v f o L) 0 0 (rv (fun S' => S' = lay S a b s v (if f < 0 then nI a else f) o L)) := by
  refine pc_of (ls := [some (.ref m)]) (by decide +kernel) rfl (Nat.le_of_ble_eq_true rfl) ?_
  refine px_aload_n dX12_wrong_0 rfl rfl ?_
  refine mx_getI (k := 22) dX12_wrong_1 gX12_178 (fun _ => rfl) ?_
  refine px_if_ge (tgt := 15) dX12_wrong_4 (by decide) (fun H4 => ?_) (fun H4 => ?_)
  · skip
    rw [g22] at H4
    refine px_return dX12_wrong_15 rfl ?_
    first | rw [if_pos H4] | rw [if_neg H4]
  · skip
    rw [g22] at H4
    refine px_aload_n dX12_wrong_7 rfl rfl ?_
    refine px_aload_n dX12_wrong_8 rfl rfl ?_
    refine mx_getI (k := 24) dX12_wrong_9 gX12_155 (fun _ => rfl) ?_
    refine mx_putI (k := 22) dX12_wrong_12 gX12_178 (by decide) rfl rfl ?_
    refine px_S (S' := lay S a b s v (nI a) o L) lay_f ?_
    refine px_return dX12_wrong_15 rfl ?_
    first | rw [if_pos H4] | rw [if_neg H4]
set_option maxHeartbeats 4000000 in
set_option maxRecDepth 100000 in
theorem c_X12_isSign (G : Gt) (m : Nat) (h0 : Ht) (S : MS) (a b s : Nat) (v f : Int32) (o : Nat) (L : List (Int32 × Int32)) (x : Int32) (hs : s ≤ 5) : PC G (MPic G m h0) 1 Y12_isSign [.ref m, .int x] (lay S a b s v f o L) 0 0 (ri (fun y S' => y = bI (decide (f < 0 ∧ s = 3 ∧ v = x)) ∧ S' = (lay S a b s v f o L))) := by
  refine pc_of (ls := [some (.ref m), some (.int x)]) (by decide +kernel) rfl (Nat.le_of_ble_eq_true rfl) ?_
  refine px_aload_n dX12_isSign_0 rfl rfl ?_
  refine mx_getI (k := 22) dX12_isSign_1 gX12_178 (fun _ => rfl) ?_
  refine px_if_ge (tgt := 27) dX12_isSign_4 (by decide) (fun H4 => ?_) (fun H4 => ?_)
  · skip
    rw [g22] at H4
    refine px_iconst (v := 0) dX12_isSign_27 (by decide) ?_
    refine px_iretZ dX12_isSign_28 rfl (by first | rfl | decide) ?_
    exact ⟨by simp [bI, *], rfl⟩
  · skip
    rw [g22] at H4
    refine px_aload_n dX12_isSign_7 rfl rfl ?_
    refine mx_getI (k := 26) dX12_isSign_8 gX12_162 (fun _ => rfl) ?_
    refine px_iconst (v := 3) dX12_isSign_11 (by decide) ?_
    refine px_icmp_ne (tgt := 27) dX12_isSign_12 (by decide) (fun H12 => ?_) (fun H12 => ?_)
    · skip
      rw [g26, show (nI s = 3) = (s = 3) from propext (nI_eq (b := 3) (by omega) (by omega))] at H12
      refine px_iconst (v := 0) dX12_isSign_27 (by decide) ?_
      refine px_iretZ dX12_isSign_28 rfl (by first | rfl | decide) ?_
      exact ⟨by simp [bI, *], rfl⟩
    · skip
      rw [g26, show (nI s = 3) = (s = 3) from propext (nI_eq (b := 3) (by omega) (by omega))] at H12
      refine px_aload_n dX12_isSign_15 rfl rfl ?_
      refine mx_getI (k := 27) dX12_isSign_16 gX12_172 (fun _ => rfl) ?_
      refine px_iload_n dX12_isSign_19 rfl rfl ?_
      refine px_icmp_ne (tgt := 27) dX12_isSign_20 (by decide) (fun H20 => ?_) (fun H20 => ?_)
      · skip
        rw [g27] at H20
        refine px_iconst (v := 0) dX12_isSign_27 (by decide) ?_
        refine px_iretZ dX12_isSign_28 rfl (by first | rfl | decide) ?_
        exact ⟨by simp [bI, *], rfl⟩
      · skip
        rw [g27] at H20
        refine px_iconst (v := 1) dX12_isSign_23 (by decide) ?_
        refine px_goto (tgt := 28) dX12_isSign_24 (by decide) ?_
        refine px_iretZ dX12_isSign_28 rfl (by first | rfl | decide) ?_
        exact ⟨by simp [bI, *], rfl⟩
set_option maxHeartbeats 4000000 in
set_option maxRecDepth 100000 in
theorem c_X12_isKey (G : Gt) (m : Nat) (h0 : Ht) (S : MS) (a b s : Nat) (v f : Int32) (o : Nat) (L : List (Int32 × Int32)) (x : Int32) (hs : s ≤ 5) : PC G (MPic G m h0) 1 Y12_isKey [.ref m, .int x] (lay S a b s v f o L) 0 0 (ri (fun y S' => y = bI (decide (f < 0 ∧ s = 1 ∧ v = x)) ∧ S' = (lay S a b s v f o L))) := by
  refine pc_of (ls := [some (.ref m), some (.int x)]) (by decide +kernel) rfl (Nat.le_of_ble_eq_true rfl) ?_
  refine px_aload_n dX12_isKey_0 rfl rfl ?_
  refine mx_getI (k := 22) dX12_isKey_1 gX12_178 (fun _ => rfl) ?_
  refine px_if_ge (tgt := 27) dX12_isKey_4 (by decide) (fun H4 => ?_) (fun H4 => ?_)
  · skip
    rw [g22] at H4
    refine px_iconst (v := 0) dX12_isKey_27 (by decide) ?_
    refine px_iretZ dX12_isKey_28 rfl (by first | rfl | decide) ?_
    exact ⟨by simp [bI, *], rfl⟩
  · skip
    rw [g22] at H4
    refine px_aload_n dX12_isKey_7 rfl rfl ?_
    refine mx_getI (k := 26) dX12_isKey_8 gX12_162 (fun _ => rfl) ?_
    refine px_iconst (v := 1) dX12_isKey_11 (by decide) ?_
    refine px_icmp_ne (tgt := 27) dX12_isKey_12 (by decide) (fun H12 => ?_) (fun H12 => ?_)
    · skip
      rw [g26, show (nI s = 1) = (s = 1) from propext (nI_eq (b := 1) (by omega) (by omega))] at H12
      refine px_iconst (v := 0) dX12_isKey_27 (by decide) ?_
      refine px_iretZ dX12_isKey_28 rfl (by first | rfl | decide) ?_
      exact ⟨by simp [bI, *], rfl⟩
    · skip
      rw [g26, show (nI s = 1) = (s = 1) from propext (nI_eq (b := 1) (by omega) (by omega))] at H12
      refine px_aload_n dX12_isKey_15 rfl rfl ?_
      refine mx_getI (k := 27) dX12_isKey_16 gX12_172 (fun _ => rfl) ?_
      refine px_iload_n dX12_isKey_19 rfl rfl ?_
      refine px_icmp_ne (tgt := 27) dX12_isKey_20 (by decide) (fun H20 => ?_) (fun H20 => ?_)
      · skip
        rw [g27] at H20
        refine px_iconst (v := 0) dX12_isKey_27 (by decide) ?_
        refine px_iretZ dX12_isKey_28 rfl (by first | rfl | decide) ?_
        exact ⟨by simp [bI, *], rfl⟩
      · skip
        rw [g27] at H20
        refine px_iconst (v := 1) dX12_isKey_23 (by decide) ?_
        refine px_goto (tgt := 28) dX12_isKey_24 (by decide) ?_
        refine px_iretZ dX12_isKey_28 rfl (by first | rfl | decide) ?_
        exact ⟨by simp [bI, *], rfl⟩
set_option maxHeartbeats 4000000 in
set_option maxRecDepth 100000 in
theorem c_X12_addStep (G : Gt) (m : Nat) (h0 : Ht) (S : MS) (a b s : Nat) (v f : Int32) (o : Nat) (L : List (Int32 × Int32)) (x y : Int32) (hL : L.length < 170) : PC G (MPic G m h0) 1 Y12_addStep [.ref m, .int x, .int y] (lay S a b s v f o L) 0 0 (rv (fun S' => S' = lay S a b s v f o (L ++ [(x, y)]))) := by
  refine pc_of (ls := [some (.ref m), some (.int x), some (.int y)]) (by decide +kernel) rfl (Nat.le_of_ble_eq_true rfl) ?_
  refine px_aload_n dX12_addStep_0 rfl rfl ?_
  refine mx_getA (k := 18) (j := 12) dX12_addStep_1 gX12_52 (fun _ => rfl) ?_
  refine px_sipush (v := 1020) dX12_addStep_4 (by decide) ?_
  refine px_aload_n dX12_addStep_7 rfl rfl ?_
  refine mx_getI (k := 21) dX12_addStep_8 gX12_181 (fun _ => rfl) ?_
  refine px_iadd dX12_addStep_11 ?_
  refine px_iload_n dX12_addStep_12 rfl rfl ?_
  refine mx_iast (j := 12) (k := 18) (1020 + L.length) dX12_addStep_13 rfl (show (1020 : Int32) + nI L.length = nI (1020 + L.length) from by rw [show (1020 : Int32) = nI 1020 from rfl, nI_add]) (by omega) (by decide) ?_
  refine px_aload_n dX12_addStep_14 rfl rfl ?_
  refine mx_getA (k := 19) (j := 13) dX12_addStep_15 gX12_55 (fun _ => rfl) ?_
  refine px_sipush (v := 1020) dX12_addStep_18 (by decide) ?_
  refine px_aload_n dX12_addStep_21 rfl rfl ?_
  refine mx_getI (k := 21) dX12_addStep_22 gX12_181 (fun _ => rfl) ?_
  refine px_iadd dX12_addStep_25 ?_
  refine px_iload_n dX12_addStep_26 rfl rfl ?_
  refine mx_iast (j := 13) (k := 19) (1020 + L.length) dX12_addStep_27 rfl (show (1020 : Int32) + nI L.length = nI (1020 + L.length) from by rw [show (1020 : Int32) = nI 1020 from rfl, nI_add]) (by omega) (by decide) ?_
  refine px_aload_n dX12_addStep_28 rfl rfl ?_
  refine px_dup dX12_addStep_29 rfl ?_
  refine mx_getI (k := 21) dX12_addStep_30 gX12_181 (fun _ => rfl) ?_
  refine px_iconst (v := 1) dX12_addStep_33 (by decide) ?_
  refine px_iadd dX12_addStep_34 ?_
  refine mx_putI (k := 21) dX12_addStep_35 gX12_181 (by decide) rfl rfl ?_
  refine px_S (S' := lay S a b s v f o (L ++ [(x, y)])) (by rw [← lay_L]; show up2 _ 21 0 (nI L.length + 1) = _; rw [nI_1]) ?_
  refine px_return dX12_addStep_38 rfl ?_
  rfl
set_option maxHeartbeats 4000000 in
set_option maxRecDepth 100000 in
theorem c_X12_opens (G : Gt) (m : Nat) (h0 : Ht) (S : MS) (a b s : Nat) (v f : Int32) (o : Nat) (L : List (Int32 × Int32)) (t : Nat) (hT : S 15 0 = nI t) (ht : t ≤ 160) (hb : b ≤ t) (ho : o ≤ 5) : PC G (MPic G m h0) 4 Y12_opens [.ref m] (lay S a b s v f o L) 0 0 (ri (fun y S' => y = bI (decide (¬ o = 5)) ∧ S' = layz S (zOp (S 14) t (a, b, s, v, f, o, L)))) := by
  refine pc_of (ls := [some (.ref m)]) (by decide +kernel) rfl (Nat.le_of_ble_eq_true rfl) ?_
  refine px_aload_n dX12_opens_0 rfl rfl ?_
  refine mx_getI (k := 23) dX12_opens_1 gX12_184 (fun _ => rfl) ?_
  refine px_iconst (v := 5) dX12_opens_4 (by decide) ?_
  refine px_icmp_ne (tgt := 14) dX12_opens_5 (by decide) (fun H5 => ?_) (fun H5 => ?_)
  · skip
    rw [g23, show (nI o = 5) = (o = 5) from propext (nI_eq (b := 5) (by omega) (by omega))] at H5
    refine px_aload_n dX12_opens_14 rfl rfl ?_
    refine px_dup dX12_opens_15 rfl ?_
    refine mx_getI (k := 23) dX12_opens_16 gX12_184 (fun _ => rfl) ?_
    refine px_iconst (v := 1) dX12_opens_19 (by decide) ?_
    refine px_iadd dX12_opens_20 ?_
    refine mx_putI (k := 23) dX12_opens_21 gX12_184 (by decide) rfl rfl ?_
    refine px_S (S' := lay S a b s v f (o + 1) L) (by rw [g23, nI_1]; exact lay_o) ?_
    refine px_aload_n dX12_opens_24 rfl rfl ?_
    refine mx_callV0 dX12_opens_25 lX12_190 rfl (c_X12_next G m h0 S a s f (o + 1) L t b v hT ht hb) (by decide) (Nat.le_of_ble_eq_true rfl) (fun S25 Q25 => ?_)
    obtain rfl := Q25.symm
    refine px_iconst (v := 1) dX12_opens_28 (by decide) ?_
    refine px_iretZ dX12_opens_29 rfl (by first | rfl | decide) ?_
    exact ⟨by simp [bI, H5], by unfold zOp; first | rw [if_pos (show zO (a, b, s, v, f, o, L) = 5 from H5)]; rfl | rw [if_neg (show ¬ zO (a, b, s, v, f, o, L) = 5 from H5)]; rfl⟩
  · skip
    rw [g23, show (nI o = 5) = (o = 5) from propext (nI_eq (b := 5) (by omega) (by omega))] at H5
    refine px_aload_n dX12_opens_8 rfl rfl ?_
    refine mx_callV0 dX12_opens_9 lX12_187 rfl (c_X12_wrong G m h0 S a b s v f o L) (by decide) (Nat.le_of_ble_eq_true rfl) (fun S9 Q9 => ?_)
    obtain rfl := Q9.symm
    refine px_iconst (v := 0) dX12_opens_12 (by decide) ?_
    refine px_iretZ dX12_opens_13 rfl (by first | rfl | decide) ?_
    exact ⟨by simp [bI, H5], by unfold zOp; first | rw [if_pos (show zO (a, b, s, v, f, o, L) = 5 from H5)]; rfl | rw [if_neg (show ¬ zO (a, b, s, v, f, o, L) = 5 from H5)]; rfl⟩
section Zm
variable (G : Gt) (m : Nat) (h0 : Ht) (S : MS) (t : Nat) (hT : S 15 0 = nI t) (z : PZ) (hz : Zi t z)
theorem m_next (hT : S 15 0 = nI t) (hz : Zi t z) : PC G (MPic G m h0) 3 Y12_next [.ref m] (layz S z) 0 0 (rv (fun S' => S' = layz S (zN (S 14) t z))) := c_X12_next G m h0 S _ _ _ _ _ t _ _ hT hz.2.2.1 hz.2.1
theorem m_wrong : PC G (MPic G m h0) 1 Y12_wrong [.ref m] (layz S z) 0 0 (rv (fun S' => S' = layz S (zW z))) := c_X12_wrong G m h0 S _ _ _ _ _ _ _
theorem m_sign (x : Int32) (hz : Zi t z) : PC G (MPic G m h0) 1 Y12_isSign [.ref m, .int x] (layz S z) 0 0 (ri (fun y S' => y = bI (zSg z x) ∧ S' = layz S z)) := c_X12_isSign G m h0 S _ _ _ _ _ _ _ x hz.2.2.2.2.2.1
theorem m_key (x : Int32) (hz : Zi t z) : PC G (MPic G m h0) 1 Y12_isKey [.ref m, .int x] (layz S z) 0 0 (ri (fun y S' => y = bI (zKy z x) ∧ S' = layz S z)) := c_X12_isKey G m h0 S _ _ _ _ _ _ _ x hz.2.2.2.2.2.1
theorem m_add (x y : Int32) (hL : (zL z).length < 170) : PC G (MPic G m h0) 1 Y12_addStep [.ref m, .int x, .int y] (layz S z) 0 0 (rv (fun S' => S' = layz S (zAd z (x, y)))) := c_X12_addStep G m h0 S _ _ _ _ _ _ _ x y hL
theorem m_opens (hT : S 15 0 = nI t) (hz : Zi t z) (hf : zF z < 0) : PC G (MPic G m h0) 4 Y12_opens [.ref m] (layz S z) 0 0 (ri (fun y S' => y = bI (decide (¬ zO z = 5)) ∧ S' = layz S (zOp (S 14) t z))) := c_X12_opens G m h0 S _ _ _ _ _ _ _ t hT hz.2.2.1 hz.2.1 (hz.2.2.2.2.2.2 hf)
end Zm
