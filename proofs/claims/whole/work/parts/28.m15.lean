/-! a pure reader: it stays in its room -/
/-- z' behind z: no step more than tokens that were passed -/
def Zg (t : Nat) (z z' : PZ) : Prop := Zi t z' ∧ zA z ≤ zA z' ∧ (zL z').length + zA z ≤ zA z' + (zL z).length ∧ zO z ≤ zO z' ∧ (zF z' < 0 → zF z < 0 ∧ zO z' = zO z)
theorem Zg.rf {t : Nat} {z : PZ} (h : Zi t z) : Zg t z z := ⟨h, Nat.le_refl _, by omega, Nat.le_refl _, fun h => ⟨h, rfl⟩⟩
theorem Zg.tr {t : Nat} {z z1 z2 : PZ} (h1 : Zg t z z1) (h2 : Zg t z1 z2) : Zg t z z2 := by
  obtain ⟨_, b1, c1, d1, e1⟩ := h1
  obtain ⟨a2, b2, c2, d2, e2⟩ := h2
  exact ⟨a2, by omega, by omega, by omega, fun h => ⟨(e1 (e2 h).1).1, by rw [(e2 h).2, (e1 (e2 h).1).2]⟩⟩
theorem zN_i {tp : Nat → Int32} {t : Nat} {z : PZ} (h : Zi t z) : Zi t (zN tp t z) := by
  obtain ⟨h1, h2, h3, h4, h5, h6, h7⟩ := h
  obtain ⟨q1, q2, q3, q4, q5⟩ := lx_ok (tp := tp) h2
  exact ⟨q2, q3, h3, Nat.le_trans h4 (Nat.le_trans h1 q1), q4, q5, h7⟩
theorem zN_a {tp : Nat → Int32} {t : Nat} {z : PZ} (h : Zi t z) : zB z ≤ zA (zN tp t z) := (lx_ok (tp := tp) h.2.1).1
/-- one token on, that is not empty: room for one step -/
theorem zN_g {tp : Nat → Int32} {t : Nat} {z : PZ} (h : Zi t z) (hs : zS z = 1 ∨ zS z = 2 ∨ zS z = 3) : Zi t (zN tp t z) ∧ zA z + 1 ≤ zA (zN tp t z) ∧ zL (zN tp t z) = zL z ∧ zO (zN tp t z) = zO z ∧ zF (zN tp t z) = zF z := ⟨zN_i h, Nat.le_trans (h.2.2.2.2.1 hs) (zN_a h), rfl, rfl, rfl⟩
theorem zW_i {t : Nat} {z : PZ} (h : Zi t z) : Zi t (zW z) := ⟨h.1, h.2.1, h.2.2.1, h.2.2.2.1, h.2.2.2.2.1, h.2.2.2.2.2.1, fun q => h.2.2.2.2.2.2 (by
  unfold zW at q
  by_cases e : zF z < 0
  · exact e
  · have q2 : (if zF z < 0 then nI (zA z) else zF z) < 0 := q
    rw [if_neg e] at q2
    exact q2)⟩
theorem nI_nn {a : Nat} (h : a ≤ 160) : ¬ nI a < 0 := fun q => by have := (nI_ltI (b := 0) (by omega) (by omega)).mp q; omega
theorem zW_f {t : Nat} {z : PZ} (h : Zi t z) : ¬ zF (zW z) < 0 := by
  have e : zF (zW z) = if zF z < 0 then nI (zA z) else zF z := rfl
  rw [e]
  have h1 := h.1
  have h2 := h.2.1
  have h3 := h.2.2.1
  by_cases q : zF z < 0
  · rw [if_pos q]; exact nI_nn (by omega)
  · rw [if_neg q]; exact q
theorem zW_g {t : Nat} {z : PZ} (h : Zi t z) : Zg t z (zW z) := ⟨zW_i h, Nat.le_refl _, by show (zL z).length + zA z ≤ zA z + (zL z).length; omega, Nat.le_refl _, fun q => absurd q (zW_f h)⟩
/-- a step may be added where one token more was passed -/
theorem zAd_i {t : Nat} {z : PZ} {c : Int32 × Int32} (h : Zi t z) (hl : (zL z).length + 1 ≤ zA z) : Zi t (zAd z c) := ⟨h.1, h.2.1, h.2.2.1, by show (zL z ++ [c]).length ≤ zA z; rw [List.length_append]; exact hl, h.2.2.2.2.1, h.2.2.2.2.2.1, h.2.2.2.2.2.2⟩
theorem zAd_l {z : PZ} {c : Int32 × Int32} : (zL (zAd z c)).length = (zL z).length + 1 := by show (zL z ++ [c]).length = _; rw [List.length_append]; rfl
/-- a reader of level n -/
def FOK (t n : Nat) (F : PZ → PZ) : Prop := ∀ z, Zi t z → (zF z < 0 → 6 ≤ zO z + n) → Zg t z (F z)
theorem sg_y {z : PZ} {x : Int32} (h : zSg z x = true) : zF z < 0 ∧ zS z = 3 ∧ zV z = x := decide_eq_true_iff.mp h
theorem ky_y {z : PZ} {x : Int32} (h : zKy z x = true) : zF z < 0 ∧ zS z = 1 ∧ zV z = x := decide_eq_true_iff.mp h
/-- one turn of a loop: a token, an operand, a step -/
theorem turn_g {tp : Nat → Int32} {t n : Nat} {F : PZ → PZ} {z : PZ} {c : Int32 × Int32} (hF : FOK t n F) (hz : Zi t z) (hn : zF z < 0 → 6 ≤ zO z + n) (hs : zS z = 1 ∨ zS z = 2 ∨ zS z = 3) : Zg t (zN tp t z) (F (zN tp t z)) ∧ (zL (F (zN tp t z))).length + 1 ≤ zA (F (zN tp t z)) ∧ Zg t z (zAd (F (zN tp t z)) c) ∧ zA z + 1 ≤ zA (zAd (F (zN tp t z)) c) := by
  obtain ⟨q1, q2, q3, q4, q5⟩ := zN_g (tp := tp) hz hs
  have hg := hF (zN tp t z) q1 (fun q => by rw [q4]; exact hn (by rw [← q5]; exact q))
  have hg2 := hg
  obtain ⟨r1, r2, r3, r4, r5⟩ := hg
  have hzl := hz.2.2.2.1
  rw [q3] at r3
  rw [q4] at r4 r5
  rw [q5] at r5
  refine ⟨hg2, by omega, ⟨zAd_i r1 (by omega), ?_, ?_, r4, r5⟩, ?_⟩
  · show zA z ≤ zA (F (zN tp t z)); omega
  · rw [zAd_l]; show _ ≤ zA (F (zN tp t z)) + _; omega
  · show _ ≤ zA (F (zN tp t z)); omega
theorem whl_g {t n : Nat} {c : PZ → Bool} {g : PZ → PZ} (hg : ∀ z, Zi t z → c z = true → (zF z < 0 → 6 ≤ zO z + n) → Zg t z (g z)) : ∀ (k : Nat) (z : PZ), Zi t z → (zF z < 0 → 6 ≤ zO z + n) → Zg t z (whl k c g z)
  | 0, z, hz, _ => Zg.rf hz
  | k + 1, z, hz, hn => by
    rw [whl]
    by_cases q : c z = true
    · rw [if_pos q]
      have h1 := hg z hz q hn
      exact h1.tr (whl_g hg k (g z) h1.1 (fun q2 => by have := h1.2.2.2.2 q2; rw [this.2]; exact hn this.1))
    · rw [if_neg q]
      exact Zg.rf hz
theorem Zg.n {t n : Nat} {z z' : PZ} (h : Zg t z z') (hn : zF z < 0 → 6 ≤ zO z + n) : zF z' < 0 → 6 ≤ zO z' + n := fun q => by have := h.2.2.2.2 q; rw [this.2]; exact hn this.1
theorem zTerm_g {tp : Nat → Int32} {t n : Nat} {F : PZ → PZ} (hF : FOK t n F) : FOK t n (zTerm tp t F) := fun z hz hn => by
  have h1 := hF z hz hn
  exact h1.tr (whl_g (n := n) (fun z hz hc hn => (turn_g hF hz hn (Or.inr (Or.inr (sg_y hc).2.1))).2.2.1) 161 _ h1.1 (h1.n hn))
theorem or_sg {z : PZ} {x y : Int32} (h : (zSg z x || zSg z y) = true) : zF z < 0 ∧ zS z = 3 := by
  rcases (Bool.or_eq_true _ _).mp h with q | q
  · exact ⟨(sg_y q).1, (sg_y q).2.1⟩
  · exact ⟨(sg_y q).1, (sg_y q).2.1⟩
theorem zSum_g {tp : Nat → Int32} {t n : Nat} {F : PZ → PZ} (hF : FOK t n F) : FOK t n (zSum tp t F) := fun z hz hn => by
  have h1 := zTerm_g (tp := tp) hF z hz hn
  exact h1.tr (whl_g (n := n) (fun z hz hc hn => (turn_g (zTerm_g (tp := tp) hF) hz hn (Or.inr (Or.inr (or_sg hc).2))).2.2.1) 161 _ h1.1 (h1.n hn))
theorem zAll_g {tp : Nat → Int32} {t n : Nat} {F : PZ → PZ} (hF : FOK t n F) : FOK t n (zAll tp t F) := fun z hz hn => by
  have h1 := hF z hz hn
  exact h1.tr (whl_g (n := n) (fun z hz hc hn => (turn_g hF hz hn (Or.inl (ky_y hc).2.1)).2.2.1) 161 _ h1.1 (h1.n hn))
theorem zEi_g {tp : Nat → Int32} {t n : Nat} {F : PZ → PZ} (hF : FOK t n F) : FOK t n (zEi tp t F) := fun z hz hn => by
  have h1 := zAll_g (tp := tp) hF z hz hn
  exact h1.tr (whl_g (n := n) (fun z hz hc hn => (turn_g (zAll_g (tp := tp) hF) hz hn (Or.inl (ky_y hc).2.1)).2.2.1) 161 _ h1.1 (h1.n hn))
/-- behind a token that opens -/
theorem opn_g {tp : Nat → Int32} {t n : Nat} {F : PZ → PZ} {z : PZ} (hF : FOK t n F) (hz : Zi t z) (hf : zF z < 0) (hn : 6 ≤ zO z + (n + 1)) (hs : zS z = 1 ∨ zS z = 2 ∨ zS z = 3) (ho : ¬ zO z = 5) : Zi t (zN tp t (zI z)) ∧ (zF (zN tp t (zI z)) < 0 → 6 ≤ zO (zN tp t (zI z)) + n) ∧ Zi t (F (zN tp t (zI z))) ∧ 1 ≤ zO (F (zN tp t (zI z))) ∧ (zL (F (zN tp t (zI z)))).length + 1 + zA z ≤ zA (F (zN tp t (zI z))) + (zL z).length ∧ (zL (F (zN tp t (zI z)))).length + 1 ≤ zA (F (zN tp t (zI z))) ∧ zA z ≤ zA (F (zN tp t (zI z))) ∧ Zg t z (zD (F (zN tp t (zI z)))) ∧ zO z ≤ zO (F (zN tp t (zI z))) := by
  have hI : Zi t (zI z) := ⟨hz.1, hz.2.1, hz.2.2.1, hz.2.2.2.1, hz.2.2.2.2.1, hz.2.2.2.2.2.1, fun _ => by show zO z + 1 ≤ 5; have := hz.2.2.2.2.2.2 hf; omega⟩
  obtain ⟨q1, q2, q3, q4, q5⟩ := zN_g (tp := tp) hI hs
  have e1 : zA (zI z) = zA z := rfl
  have e2 : zL (zI z) = zL z := rfl
  have e3 : zO (zI z) = zO z + 1 := rfl
  have e4 : zF (zI z) = zF z := rfl
  rw [e1] at q2
  rw [e2] at q3
  rw [e3] at q4
  rw [e4] at q5
  have hn2 : zF (zN tp t (zI z)) < 0 → 6 ≤ zO (zN tp t (zI z)) + n := fun _ => by rw [q4]; omega
  obtain ⟨r1, r2, r3, r4, r5⟩ := hF _ q1 hn2
  rw [q3] at r3
  rw [q4] at r4 r5
  have hzl := hz.2.2.2.1
  refine ⟨q1, hn2, r1, by omega, by omega, by omega, by omega, ⟨⟨r1.1, r1.2.1, r1.2.2.1, r1.2.2.2.1, r1.2.2.2.2.1, r1.2.2.2.2.2.1, fun q => ?_⟩, ?_, ?_, ?_, fun q => ⟨hf, ?_⟩⟩, by omega⟩
  · show zO (F _) - 1 ≤ 5
    have := r1.2.2.2.2.2.2 q
    omega
  · show zA z ≤ zA (F _); omega
  · show (zL (F _)).length + _ ≤ zA (F _) + _; omega
  · show _ ≤ zO (F _) - 1; omega
  · have := (r5 q).2
    show zO (F _) - 1 = zO z
    omega
theorem zOne1_g {tp : Nat → Int32} {t n : Nat} {o1 ei : PZ → PZ} (h1 : FOK t n o1) (h2 : FOK t n ei) : FOK t (n + 1) (zOne1 tp t o1 ei) := fun z hz hn => by
  unfold zOne1
  by_cases hf : zF z < 0
  · rw [if_neg (not_not_intro hf)]
    have tk : ∀ c, (zS z = 1 ∨ zS z = 2 ∨ zS z = 3) → Zg t z (zN tp t (zAd z c)) := fun c hs => by
      obtain ⟨w1, w2, w3, w4, w5, w6, w7⟩ := hz
      obtain ⟨q1, q2, q3, q4, q5⟩ := lx_ok (tp := tp) w2
      have e5 := w5 hs
      have el : (zL z ++ [c]).length = (zL z).length + 1 := by rw [List.length_append]; rfl
      refine ⟨⟨q2, q3, w3, ?_, q4, q5, w7⟩, ?_, ?_, Nat.le_refl _, fun q => ⟨hf, rfl⟩⟩
      · show (zL z ++ [c]).length ≤ lxA tp t (zB z); omega
      · show zA z ≤ lxA tp t (zB z); omega
      · show (zL z ++ [c]).length + _ ≤ lxA tp t (zB z) + _; omega
    by_cases e1 : zS z = 2
    · rw [if_pos e1]; exact tk _ (Or.inr (Or.inl e1))
    rw [if_neg e1]
    by_cases e2 : zS z = 1 ∧ zV z < 6
    · rw [if_pos e2]; exact tk _ (Or.inl e2.1)
    rw [if_neg e2]
    by_cases e3 : zSg z 45 = true
    · rw [if_pos e3]
      by_cases e4 : zO z = 5
      · rw [if_pos e4]; exact zW_g hz
      · rw [if_neg e4]
        obtain ⟨_, _, q1, q2, q3, q4, q5, q6, q7⟩ := opn_g (tp := tp) h1 hz hf (hn hf) (Or.inr (Or.inr (sg_y e3).2.1)) e4
        obtain ⟨r1, r2, r3, r4, r5⟩ := q6
        refine ⟨zAd_i r1 q4, r2, ?_, r4, r5⟩
        rw [zAd_l]
        show (zL (o1 _)).length + 1 + _ ≤ zA (o1 _) + _
        omega
    rw [if_neg e3]
    by_cases e5 : zSg z 40 = true
    · rw [if_pos e5]
      by_cases e4 : zO z = 5
      · rw [if_pos e4]; exact zW_g hz
      · rw [if_neg e4]
        obtain ⟨_, _, q1, q2, q3, q4, q5, q6, q7⟩ := opn_g (tp := tp) h2 hz hf (hn hf) (Or.inr (Or.inr (sg_y e5).2.1)) e4
        by_cases e6 : zSg (ei (zN tp t (zI z))) 41 = true
        · rw [if_pos e6]
          obtain ⟨s1, s2, s3, s4, s5⟩ := zN_g (tp := tp) q6.1 (Or.inr (Or.inr (sg_y e6).2.1))
          refine q6.tr ⟨s1, by omega, by rw [s3]; omega, by rw [s4]; exact Nat.le_refl _, fun q => ⟨by rw [s5] at q; exact q, s4⟩⟩
        · rw [if_neg e6]
          have g := zW_g q1
          refine ⟨g.1, ?_, ?_, ?_, fun q => absurd q (zW_f q1)⟩
          · show zA z ≤ zA (ei _); omega
          · show (zL (ei _)).length + _ ≤ zA (ei _) + _; omega
          · show zO z ≤ zO (ei _); omega
    rw [if_neg e5]
    exact zW_g hz
  · rw [if_pos hf]
    exact Zg.rf hz
theorem zDen1_g {tp : Nat → Int32} {t n : Nat} {dn sm : PZ → PZ} (h1 : FOK t n dn) (h2 : FOK t (n + 1) sm) : FOK t (n + 1) (zDen1 tp t dn sm) := fun z hz hn => by
  unfold zDen1
  by_cases e3 : zKy z 15 = true
  · rw [if_pos e3]
    have hf := (ky_y e3).1
    by_cases e4 : zO z = 5
    · rw [if_pos e4]; exact zW_g hz
    · rw [if_neg e4]
      obtain ⟨_, _, q1, q2, q3, q4, q5, q6, q7⟩ := opn_g (tp := tp) h1 hz hf (hn hf) (Or.inl (ky_y e3).2.1) e4
      obtain ⟨r1, r2, r3, r4, r5⟩ := q6
      refine ⟨zAd_i r1 q4, r2, ?_, r4, r5⟩
      rw [zAd_l]
      show (zL (dn _)).length + 1 + _ ≤ zA (dn _) + _
      omega
  · rw [if_neg e3]
    have g := h2 z hz hn
    by_cases e5 : zSg (sm z) 60 = true ∨ zSg (sm z) 61 = true
    · rw [if_pos e5]
      have hs : zS (sm z) = 3 := by
        rcases e5 with q | q
        · exact (sg_y q).2.1
        · exact (sg_y q).2.1
      exact g.tr (turn_g h2 g.1 (g.n hn) (Or.inr (Or.inr hs))).2.2.1
    · rw [if_neg e5]
      exact g
theorem zP_g (tp : Nat → Int32) (t : Nat) : ∀ n, FOK t n (zP tp t n).1 ∧ FOK t n (zP tp t n).2
  | 0 => ⟨fun z hz _ => Zg.rf hz, fun z hz _ => Zg.rf hz⟩
  | n + 1 => by
    have ih := zP_g tp t n
    have ho : FOK t (n + 1) (zOne1 tp t (zP tp t n).1 (zEi tp t (zP tp t n).2)) := zOne1_g ih.1 (zEi_g ih.2)
    exact ⟨ho, zDen1_g ih.2 (zSum_g ho)⟩
