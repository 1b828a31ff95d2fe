/-! THE CLASS: the cutter's search -/
theorem dg_hi {p0 f r j part : Nat} (h : part + f = 5) (hr : r < 6 ^ f) (hj : j < part) : dg (p0 * 6 ^ f + r) j = p0 / 6 ^ (4 - j - f) % 6 := by
  unfold dg
  have e : 6 ^ (4 - j) = 6 ^ f * 6 ^ (4 - j - f) := by rw [← Nat.pow_add]; congr 1; omega
  rw [e, ← Nat.div_div_eq_div_mul]
  have hp : 0 < 6 ^ f := Nat.pow_pos (by decide)
  rw [Nat.add_comm, Nat.add_mul_div_right _ _ hp, Nat.div_eq_of_lt hr, Nat.zero_add]
theorem dg_pre {p0 f r j part : Nat} (h : part + f = 5) (hr : r < 6 ^ f) (hj : j < part) : dg (p0 * 6 ^ f + r) j = dg (p0 * 6 ^ f) j := by
  rw [dg_hi h hr hj, ← Nat.add_zero (p0 * 6 ^ f), dg_hi h (Nat.pow_pos (by decide)) hj]
theorem dg_at {p0 f r h part : Nat} (hf : part + (f + 1) = 5) (hr : r < 6 ^ f) (hh : h < 6) : dg ((p0 * 6 + h) * 6 ^ f + r) part = h := by
  unfold dg
  have hp : 0 < 6 ^ f := Nat.pow_pos (by decide)
  rw [show 4 - part = f by omega, Nat.add_comm, Nat.add_mul_div_right _ _ hp, Nat.div_eq_of_lt hr, Nat.zero_add]
  omega
theorem pw_s {p0 f h : Nat} : (p0 * 6 + h) * 6 ^ f = p0 * 6 ^ (f + 1) + h * 6 ^ f := by
  rw [Nat.add_mul, Nat.pow_succ, Nat.mul_assoc, Nat.mul_comm 6 (6 ^ f)]
theorem gv5_cong {U : MS} {c p p' h : Nat} : ∀ {k : Nat}, (∀ j, j < k → dg p j = dg p' j) → gv5 U c p h k = gv5 U c p' h k
  | 0, _ => rfl
  | k + 1, hd => by rw [gv5, gv5, gv5_cong (fun j hj => hd j (by omega)), hd k (by omega)]
/-- what parts take, what there is: small -/
def TKB (U : MS) (c : Nat) : Prop := ∀ k, k < 5 → ∃ a, a ≤ 20 ∧ mTk U c (nI k) = nI a
def OB (U : MS) (n : Nat) : Prop := ∀ h, h < n → ∃ a, a ≤ 50000 ∧ U 2 h = nI a
theorem gv5_n {U : MS} {c p h : Nat} (hT : TKB U c) : ∀ {k : Nat}, k ≤ 5 → ∃ g, g ≤ 20 * k ∧ gv5 U c p h k = nI g
  | 0, _ => ⟨0, by omega, rfl⟩
  | k + 1, hk => by
    obtain ⟨g, hg, e⟩ := gv5_n (U := U) (c := c) (p := p) (h := h) hT (show k ≤ 5 by omega)
    obtain ⟨a, ha, e2⟩ := hT k (by omega)
    rw [gv5, e, e2]
    by_cases q : dg p k = h
    · rw [if_pos q]; exact ⟨g + a, by omega, nI_add ..⟩
    · rw [if_neg q, Int32.add_zero]; exact ⟨g, by omega, rfl⟩
theorem gv5_le {U : MS} {c p h : Nat} (hT : TKB U c) {k g g' : Nat} (hk : k < 5) (e : gv5 U c p h k = nI g) (hg : g ≤ 100) (e' : gv5 U c p h (k + 1) = nI g') (hg' : g' ≤ 200) : g ≤ g' := by
  obtain ⟨a, ha, e2⟩ := hT k hk
  rw [gv5, e, e2] at e'
  by_cases q : dg p k = h
  · rw [if_pos q, nI_add] at e'
    have := eq_n (by omega) (by omega) e'
    omega
  · rw [if_neg q, Int32.add_zero] at e'
    have := eq_n (by omega) (by omega) e'
    omega
/-- the first k parts of a parting are not wrong -/
def PF (U : MS) (n c p k : Nat) : Prop := (∀ j, j < k → dg p j < n) ∧ (∀ h, h < n → ¬ U 2 h < gv5 U c p h k) ∧ ∀ q, q < 6 → tN2 q < k → ¬ mMeet U c (nI q) (dg p (oN q)) (dg p (tN2 q)) = 0
theorem PF.down {U : MS} {n c p k : Nat} (hT : TKB U c) (hO : OB U n) (hk : k < 5) (h : PF U n c p (k + 1)) : PF U n c p k := by
  refine ⟨fun j hj => h.1 j (by omega), fun x hx q => h.2.1 x hx ?_, fun q hq ht => h.2.2 q hq (by omega)⟩
  obtain ⟨g, hg, e⟩ := gv5_n (U := U) (c := c) (p := p) (h := x) hT (show k ≤ 5 by omega)
  obtain ⟨g', hg', e'⟩ := gv5_n (U := U) (c := c) (p := p) (h := x) hT (show k + 1 ≤ 5 by omega)
  have hl := gv5_le hT hk e (by omega) e' (by omega)
  obtain ⟨a, ha, ea⟩ := hO x hx
  rw [e, ea] at q
  rw [e', ea]
  have := lt_n (by omega) (by omega) q
  exact (nI_ltI (by omega) (by omega)).mpr (by omega)
theorem gd_PF {U : MS} {n c p : Nat} : gd U n c p ↔ PF U n c p 5 := by
  unfold gd gdB
  rw [decide_eq_true_iff]
  constructor
  · rintro ⟨h1, h3, h2⟩
    have a1 := f1_all.mp h1; have a2 := f1_all.mp h2; have a3 := f1_all.mp h3
    refine ⟨fun j hj => ?_, fun x hx => ?_, fun q hq _ => ?_⟩
    · have := a1 j hj; simp only [w1, decide_eq_false_iff_not] at this; omega
    · have := a2 x hx; simp only [w2, decide_eq_false_iff_not] at this; exact this
    · have := a3 q hq; simp only [w3, decide_eq_false_iff_not] at this; exact this
  · rintro ⟨h1, h2, h3⟩
    refine ⟨f1_no fun k hk => ?_, f1_no fun k hk => ?_, f1_no fun k hk => ?_⟩
    · have := h1 k hk; simp only [w1, decide_eq_false_iff_not]; omega
    · have := h3 k hk (oN_lt hk).2; simp only [w3, decide_eq_false_iff_not]; exact this
    · have := h2 k hk; simp only [w2, decide_eq_false_iff_not]; exact this
theorem PF.at5 {U : MS} {n c p : Nat} (hT : TKB U c) (hO : OB U n) (h : gd U n c p) : ∀ {k : Nat}, k ≤ 5 → PF U n c p k := by
  have h5 := gd_PF.mp h
  have h4 := h5.down hT hO (by decide)
  have h3 := h4.down hT hO (by decide)
  have h2 := h3.down hT hO (by decide)
  have h1 := h2.down hT hO (by decide)
  have h0 := h1.down hT hO (by decide)
  intro k hk
  rcases (by omega : k = 0 ∨ k = 1 ∨ k = 2 ∨ k = 3 ∨ k = 4 ∨ k = 5) with rfl | rfl | rfl | rfl | rfl | rfl
  · exact h0
  · exact h1
  · exact h2
  · exact h3
  · exact h4
  · exact h5
theorem cnF_skip {U : MS} {n c P : Nat} : ∀ {d : Nat}, (∀ p, P ≤ p → p < P + d → ¬ gd U n c p) → cnF U n c (P + d) = cnF U n c P
  | 0, _ => rfl
  | d + 1, h => by
    rw [← Nat.add_assoc, cnF, if_neg (h (P + d) (by omega) (by omega))]
    exact cnF_skip (fun p h1 h2 => h p h1 (by omega))
theorem bt_n {U : MS} {n c p : Nat} : ∀ {k : Nat}, k ≤ 6 → ∃ b, b ≤ 2 * k ∧ btS U c p k = nI b
  | 0, _ => ⟨0, by omega, rfl⟩
  | k + 1, hk => by
    obtain ⟨b, hb, e⟩ := bt_n (U := U) (n := n) (c := c) (p := p) (show k ≤ 6 by omega)
    rw [btS, e]
    by_cases q : 0 < gvn U c p k ∧ ¬ mIn (U 2 k - gvn U c p k) 1 2 = 0
    · rw [if_pos q]
      obtain ⟨q1, q2⟩ := mIn_1.mp q.2
      obtain ⟨z, hz, ez⟩ : ∃ z, z ≤ 2 ∧ U 2 k - gvn U c p k = nI z := by
        generalize U 2 k - gvn U c p k = y at q1 q2
        rw [i_lt, show (1 : Int32).toInt = 1 from rfl] at q1
        rw [i_lt, show (2 : Int32).toInt = 2 from rfl] at q2
        refine ⟨y.toInt.toNat, by omega, ?_⟩
        rw [i_eq, nI_toInt' (by omega)]
        omega
      rw [ez, nI_add]
      exact ⟨b + z, by omega, rfl⟩
    · rw [if_neg q, Int32.add_zero]
      exact ⟨b, by omega, rfl⟩
theorem nI_nz {b : Nat} (hb : b ≤ 100000) : ¬ nI b < 0 := nI_nneg hb
theorem cnF_1 {U : MS} {n c : Nat} : ∀ {P : Nat}, P ≤ 7776 → ((cnF U n c P).1 = -1 ∨ ∃ p, p < P ∧ (cnF U n c P).1 = nI p)
  | 0, _ => Or.inl rfl
  | P + 1, hP => by
    rw [cnF]
    split
    · split
      · exact Or.inr ⟨P, by omega, rfl⟩
      · rcases cnF_1 (U := U) (n := n) (c := c) (show P ≤ 7776 by omega) with h | ⟨p, hp, h⟩
        · exact Or.inl h
        · exact Or.inr ⟨p, by omega, h⟩
    · rcases cnF_1 (U := U) (n := n) (c := c) (show P ≤ 7776 by omega) with h | ⟨p, hp, h⟩
      · exact Or.inl h
      · exact Or.inr ⟨p, by omega, h⟩
theorem cnF_lt {U : MS} {n c P : Nat} (hP : P ≤ 7776) : (cnF U n c P).1 < 0 ↔ (cnF U n c P).1 = -1 := by
  rcases cnF_1 (U := U) (n := n) (c := c) hP with h | ⟨p, hp, h⟩
  · rw [h]; decide
  · rw [h]
    constructor
    · intro q; exact absurd q (nI_nz (by omega))
    · intro q; rw [q]; decide
theorem cnF_stop {U : MS} {n c P : Nat} (hn : n ≤ 6) (h1 : ¬ (cnF U n c P).1 < 0) (h2 : (cnF U n c P).2.1 = 0) : ∀ {d : Nat}, (cnF U n c (P + d)).1 = (cnF U n c P).1 ∧ (cnF U n c (P + d)).2.1 = 0
  | 0 => ⟨rfl, h2⟩
  | d + 1 => by
    obtain ⟨i1, i2⟩ := cnF_stop (d := d) hn h1 h2
    rw [← Nat.add_assoc, cnF]
    split
    · obtain ⟨b, hb, eb⟩ := bt_n (U := U) (n := n) (c := c) (p := P + d) hn
      rw [if_neg (by rw [i1, i2, eb]; rintro (q | q); exact h1 q; exact nI_nz (by omega) q)]
      exact ⟨i1, i2⟩
    · exact ⟨i1, i2⟩
/-- the search stands at parting P -/
def MTC (T : MS) (κ : Nat) (U : MS) (n c : Nat) (al : Int32) (P : Nat) : Prop := T (120 + 10 * κ) 4 = al ∧ T (120 + 10 * κ) 0 = (cnF U n c P).1 ∧ T (120 + 10 * κ) 1 = (if (cnF U n c P).1 < 0 then -1 else (cnF U n c P).2.1) ∧ ((T (120 + 10 * κ) 5 = 0 ∧ T (120 + 10 * κ) 2 = (cnF U n c P).2.2) ∨ (T (120 + 10 * κ) 5 = 1 ∧ al = 0 ∧ ¬ (cnF U n c P).1 < 0 ∧ (cnF U n c P).2.1 = 0))
section MTg
variable {T U : MS} {κ n c P : Nat} {al : Int32}
theorem MTC.skip {d : Nat} (h : MTC T κ U n c al P) (hg : ∀ p, P ≤ p → p < P + d → ¬ gd U n c p) : MTC T κ U n c al (P + d) := by
  unfold MTC
  rw [cnF_skip hg]
  exact h
theorem MTC.stop {d : Nat} (h : MTC T κ U n c al P) (hn : n ≤ 6) (h5 : ¬ T (120 + 10 * κ) 5 = 0) : MTC T κ U n c al (P + d) := by
  obtain ⟨a1, a2, a3, a4⟩ := h
  rcases a4 with a4 | ⟨b1, b2, b3, b4⟩
  · exact absurd a4.1 h5
  · obtain ⟨i1, i2⟩ := cnF_stop (d := d) hn b3 b4
    refine ⟨a1, by rw [i1]; exact a2, ?_, Or.inr ⟨b1, b2, by rw [i1]; exact b3, i2⟩⟩
    rw [i1, i2, if_neg b3]
    rw [if_neg b3, b4] at a3
    exact a3
theorem MTC.go {T' : MS} (h : MTC T κ U n c al P) (h0 : T' (120 + 10 * κ) = T (120 + 10 * κ)) : MTC T' κ U n c al P := by
  unfold MTC
  rw [h0]
  exact h
theorem MTC.wei {S' : MS} (h : MTC T κ U n c al P) (hP : P < 7776) (h5 : T (120 + 10 * κ) 5 = 0) (hg : gd U n c P) (e4 : S' (120 + 10 * κ) 4 = T (120 + 10 * κ) 4) (e2 : S' (120 + 10 * κ) 2 = T (120 + 10 * κ) 2 + 1)
    (hb : (T (120 + 10 * κ) 0 = -1 ∨ btS U c P n < T (120 + 10 * κ) 1) → S' (120 + 10 * κ) 0 = nI P ∧ S' (120 + 10 * κ) 1 = btS U c P n)
    (hb2 : ¬ (T (120 + 10 * κ) 0 = -1 ∨ btS U c P n < T (120 + 10 * κ) 1) → S' (120 + 10 * κ) 0 = T (120 + 10 * κ) 0 ∧ S' (120 + 10 * κ) 1 = T (120 + 10 * κ) 1)
    (e5 : S' (120 + 10 * κ) 5 = if S' (120 + 10 * κ) 1 = 0 ∧ T (120 + 10 * κ) 4 = 0 then 1 else 0) : MTC S' κ U n c al (P + 1) := by
  obtain ⟨a1, a2, a3, a4⟩ := h
  have a4' : T (120 + 10 * κ) 2 = (cnF U n c P).2.2 := by
    rcases a4 with a4 | a4
    · exact a4.2
    · rw [h5] at a4; exact absurd a4.1 (by decide)
  have hlt := cnF_lt (U := U) (n := n) (c := c) (show P ≤ 7776 by omega)
  have ec : (T (120 + 10 * κ) 0 = -1 ∨ btS U c P n < T (120 + 10 * κ) 1) ↔ ((cnF U n c P).1 < 0 ∨ btS U c P n < (cnF U n c P).2.1) := by
    rw [a2, a3]
    by_cases q : (cnF U n c P).1 < 0
    · simp [hlt.mp q, q]
    · rw [if_neg q]
      have : ¬ (cnF U n c P).1 = -1 := fun e => q (hlt.mpr e)
      simp [this, q]
  have step : cnF U n c (P + 1) = if gd U n c P then (if (cnF U n c P).1 < 0 ∨ btS U c P n < (cnF U n c P).2.1 then (nI P, btS U c P n, (cnF U n c P).2.2 + 1) else ((cnF U n c P).1, (cnF U n c P).2.1, (cnF U n c P).2.2 + 1)) else cnF U n c P := rfl
  rw [if_pos hg] at step
  unfold MTC
  rw [step]
  by_cases q : (cnF U n c P).1 < 0 ∨ btS U c P n < (cnF U n c P).2.1
  · rw [if_pos q]
    obtain ⟨c1, c2⟩ := hb (ec.mpr q)
    refine ⟨e4.trans a1, c1, ?_, ?_⟩
    · rw [c2, if_neg (nI_nz (by omega))]
    · rw [e5, c2, e2, a4', a1]
      by_cases z : btS U c P n = 0 ∧ al = 0
      · rw [if_pos z]
        exact Or.inr ⟨rfl, z.2, nI_nz (by omega), z.1⟩
      · rw [if_neg z]
        exact Or.inl ⟨rfl, rfl⟩
  · rw [if_neg q]
    obtain ⟨c1, c2⟩ := hb2 (fun e => q (ec.mp e))
    have q1 : ¬ (cnF U n c P).1 < 0 := fun e => q (Or.inl e)
    rw [if_neg q1] at a3
    refine ⟨e4.trans a1, c1.trans a2, ?_, ?_⟩
    · rw [c2, a3, if_neg q1]
    · rw [e5, c2, e2, a4', a1, a3]
      by_cases z : (cnF U n c P).2.1 = 0 ∧ al = 0
      · rw [if_pos z]
        exact Or.inr ⟨rfl, z.2, q1, z.1⟩
      · rw [if_neg z]
        exact Or.inl ⟨rfl, rfl⟩
end MTg
theorem bt_step {U : MS} {n c p h : Nat} (hT : TKB U c) (hO : OB U n) (hh : h < n) (hg : gd U n c p) : btS U c p (h + 1) = if 0 < gvn U c p h ∧ ¬ 2 < U 2 h - gvn U c p h then btS U c p h + (U 2 h - gvn U c p h) else btS U c p h := by
  obtain ⟨g, hg1, eg⟩ := gv5_n (U := U) (c := c) (p := p) (h := h) hT (show 5 ≤ 5 by omega)
  obtain ⟨a, ha, ea⟩ := hO h hh
  have hle := (gd_PF.mp hg).2.1 h hh
  have egv : gvn U c p h = nI g := eg
  rw [show gv5 U c p h 5 = nI g from eg, ea] at hle
  have hga : g ≤ a := ge_n (by omega) (by omega) hle
  rw [btS, egv, ea, pk_sub hga]
  have h1 : (1 : Int32) = nI 1 := rfl
  by_cases q : 0 < nI g
  · by_cases q2 : (2 : Int32) < nI (a - g)
    · rw [if_neg (fun e => e.2 (mIn_0.mpr (Or.inr q2))), if_neg (fun e => e.2 q2), Int32.add_zero]
    · by_cases q3 : a - g = 0
      · rw [q3] at q2 ⊢
        rw [if_neg (fun e => e.2 (by decide)), if_pos ⟨q, q2⟩, nI_0]
      · rw [if_pos ⟨q, mIn_1.mpr ⟨fun e => by have := lt_n (b := 1) (by omega) (by omega) e; omega, q2⟩⟩, if_pos ⟨q, q2⟩]
  · rw [if_neg (fun e => q e.1), if_neg (fun e => q e.1), Int32.add_zero]
set_option maxHeartbeats 4000000 in
set_option maxRecDepth 100000 in
theorem lp_wei (G : Gt) (m : Nat → Prop) (M0 : Nat → va_E) (Q : Qt) (S : MS) (κ n c P : Nat) (U : MS) (al : Int32) (hκ : κ < 2) (hLO : LO S κ U n c) (hn : n ≤ 6) (hT : TKB U c) (hO : OB U n) (hP : P < 7776) (hg : gd U n c P) (hu : ∀ h, h < 6 → S (122 + 10 * κ) h = gvn U c P h) (Post : Option Value → MS → Prop) (K : PX G (CPic G m M0 Q) 1 Y3_weigh 53 [some (.ref (Q.1 13 κ)), some (.int (nI P)), some (.int (btS U c P n)), some (.int (nI n)), none] [] (S) 0 0 Post) : ∀ (kk h : Nat), h ≤ n → n + 1 ≤ h + kk → PX G (CPic G m M0 Q) 1 Y3_weigh 4 [some (.ref (Q.1 13 κ)), some (.int (nI P)), some (.int (btS U c P h)), some (.int (nI h)), none] [] (S) 0 0 Post := by
  intro kk
  induction kk with
  | zero => intro h h1 h2; omega
  | succ kk ih =>
    intro h h1 h2
    refine px_iload_n dX3_weigh_4 rfl rfl ?_
    refine px_aload_n dX3_weigh_5 rfl rfl ?_
    refine cx_get (k := 13) (i := κ) (f := 3) dX3_weigh_6 gX3_36 rfl (show κ < 2 by omega) rfl ?_
    refine px_icmp_ge (tgt := 53) dX3_weigh_9 (by decide) (fun H9 => ?_) (fun H9 => ?_)
    · skip
      rw [hLO.1] at H9
      have eN : h = n := by have := ge_n (a := h) (b := n) (by omega) (by omega) H9; omega
      rw [eN]
      exact K
    · skip
      rw [hLO.1] at H9
      have lN : h < n := lt_n (a := h) (b := n) (by omega) (by omega) H9
      have hst := bt_step hT hO lN hg
      refine px_aload_n dX3_weigh_12 rfl rfl ?_
      refine cx_get (k := 13) (i := κ) (f := 4) dX3_weigh_13 gX3_9 rfl (show κ < 2 by omega) rfl ?_
      refine px_iload_n dX3_weigh_16 rfl rfl ?_
      refine cx_iald (k := 14) (i := κ) (r := (121 + 10 * κ)) (h) dX3_weigh_17 rfl (show κ < 2 by omega) rfl (by omega) (by decide) ?_
      refine px_top (hLO.2.2.2.1 h lN) ?_
      refine px_aload_n dX3_weigh_18 rfl rfl ?_
      refine cx_get (k := 13) (i := κ) (f := 5) dX3_weigh_19 gX3_15 rfl (show κ < 2 by omega) rfl ?_
      refine px_iload_n dX3_weigh_22 rfl rfl ?_
      refine cx_iald (k := 15) (i := κ) (r := (122 + 10 * κ)) (h) dX3_weigh_23 rfl (show κ < 2 by omega) rfl (by omega) (by decide) ?_
      refine px_top (hu h (by omega)) ?_
      refine px_isub dX3_weigh_24 ?_
      refine px_istore_4 dX3_weigh_25 (by decide) rfl ?_
      refine px_aload_n dX3_weigh_27 rfl rfl ?_
      refine cx_get (k := 13) (i := κ) (f := 5) dX3_weigh_28 gX3_15 rfl (show κ < 2 by omega) rfl ?_
      refine px_iload_n dX3_weigh_31 rfl rfl ?_
      refine cx_iald (k := 15) (i := κ) (r := (122 + 10 * κ)) (h) dX3_weigh_32 rfl (show κ < 2 by omega) rfl (by omega) (by decide) ?_
      refine px_top (hu h (by omega)) ?_
      refine px_if_le (tgt := 47) dX3_weigh_33 (by decide) (fun H33 => ?_) (fun H33 => ?_)
      · skip
        refine px_iinc_3 (v := 1) dX3_weigh_47 (by decide) (by decide) rfl ?_
        refine px_goto (tgt := 4) dX3_weigh_50 (by decide) ?_
        refine px_lw (ls' := [some (.ref (Q.1 13 κ)), some (.int (nI P)), some (.int (btS U c P (h + 1))), some (.int (nI (h + 1))), none]) ?_ (ih (h + 1) (by omega) (by omega))
        (simp [LW, hst, LW, nI_1, *]; done)
      · skip
        refine px_iload dX3_weigh_36 rfl ?_
        refine px_iconst (v := 2) dX3_weigh_38 (by decide) ?_
        refine px_icmp_gt (tgt := 47) dX3_weigh_39 (by decide) (fun H39 => ?_) (fun H39 => ?_)
        · skip
          refine px_iinc_3 (v := 1) dX3_weigh_47 (by decide) (by decide) rfl ?_
          refine px_goto (tgt := 4) dX3_weigh_50 (by decide) ?_
          refine px_lw (ls' := [some (.ref (Q.1 13 κ)), some (.int (nI P)), some (.int (btS U c P (h + 1))), some (.int (nI (h + 1))), none]) ?_ (ih (h + 1) (by omega) (by omega))
          (simp [LW, hst, LW, nI_1, *]; done)
        · skip
          refine px_iload_n dX3_weigh_42 rfl rfl ?_
          refine px_iload dX3_weigh_43 rfl ?_
          refine px_iadd dX3_weigh_45 ?_
          refine px_istore_n2 dX3_weigh_46 (by decide) rfl ?_
          refine px_iinc_3 (v := 1) dX3_weigh_47 (by decide) (by decide) rfl ?_
          refine px_goto (tgt := 4) dX3_weigh_50 (by decide) ?_
          refine px_lw (ls' := [some (.ref (Q.1 13 κ)), some (.int (nI P)), some (.int (btS U c P (h + 1))), some (.int (nI (h + 1))), none]) ?_ (ih (h + 1) (by omega) (by omega))
          (simp [LW, hst, LW, nI_1, *]; done)
set_option maxHeartbeats 4000000 in
set_option maxRecDepth 100000 in
theorem c_X3_weigh (G : Gt) (m : Nat → Prop) (M0 : Nat → va_E) (Q : Qt) (S : MS) (κ n c P : Nat) (U : MS) (al : Int32) (hκ : κ < 2) (hLO : LO S κ U n c) (hn : n ≤ 6) (hT : TKB U c) (hO : OB U n) (hP : P < 7776) (hg : gd U n c P) (hu : ∀ h, h < 6 → S (122 + 10 * κ) h = gvn U c P h) (hM : MTC S κ U n c al P) (h5 : S (120 + 10 * κ) 5 = 0) : PC G (CPic G m M0 Q) 1 Y3_weigh [.ref (Q.1 13 κ), .int (nI P)] S 0 0 (rv (fun S' => fr [120 + 10 * κ] S S' ∧ S' (120 + 10 * κ) 3 = S (120 + 10 * κ) 3 ∧ MTC S' κ U n c al (P + 1))) := by
  refine pc_of (ls := [some (.ref (Q.1 13 κ)), some (.int (nI P)), none, none, none]) (by decide +kernel) rfl (Nat.le_of_ble_eq_true rfl) ?_
  refine px_iconst (v := 0) dX3_weigh_0 (by decide) ?_
  refine px_istore_n2 dX3_weigh_1 (by decide) rfl ?_
  refine px_iconst (v := 0) dX3_weigh_2 (by decide) ?_
  refine px_istore_n3 dX3_weigh_3 (by decide) rfl ?_
  refine lp_wei G m M0 Q S κ n c P U al hκ hLO hn hT hO hP hg hu _ ?_ (n + 1) 0 (by omega) (by omega)
  refine px_aload_n dX3_weigh_53 rfl rfl ?_
  refine px_dup dX3_weigh_54 rfl ?_
  refine cx_get (k := 13) (i := κ) (f := 2) dX3_weigh_55 gX3_80 rfl (show κ < 2 by omega) rfl ?_
  refine px_iconst (v := 1) dX3_weigh_58 (by decide) ?_
  refine px_iadd dX3_weigh_59 ?_
  refine cx_put (k := 13) (i := κ) (f := 2) (r := (120 + 10 * κ)) (j := 2) dX3_weigh_60 gX3_80 rfl (show κ < 2 by omega) (Nat.le_of_ble_eq_true rfl) (by omega) (ow_120 (by omega) _).1 (cpe_13_2 κ _) rfl rfl ?_
  generalize hT1 : up2 S (120 + 10 * κ) 2 (S (120 + 10 * κ) 2 + 1) = T1
  have f1' : fr [120 + 10 * κ] S T1 := by rw [← hT1]; exact fr.rf.up List.mem_cons_self
  have v0 : T1 (120 + 10 * κ) 0 = S (120 + 10 * κ) 0 := by rw [← hT1]; simp [up2, upd]
  have v1 : T1 (120 + 10 * κ) 1 = S (120 + 10 * κ) 1 := by rw [← hT1]; simp [up2, upd]
  have v2 : T1 (120 + 10 * κ) 2 = S (120 + 10 * κ) 2 + 1 := by rw [← hT1]; simp [up2, upd]
  have v3 : T1 (120 + 10 * κ) 3 = S (120 + 10 * κ) 3 := by rw [← hT1]; simp [up2, upd]
  have v4 : T1 (120 + 10 * κ) 4 = S (120 + 10 * κ) 4 := by rw [← hT1]; simp [up2, upd]
  refine px_aload_n dX3_weigh_63 rfl rfl ?_
  refine cx_get (k := 13) (i := κ) (f := 0) dX3_weigh_64 gX3_74 rfl (show κ < 2 by omega) rfl ?_
  refine px_iconst (v := (-1)) dX3_weigh_67 (by decide) ?_
  refine px_icmp_eq (tgt := 79) dX3_weigh_68 (by decide) (fun H68 => ?_) (fun H68 => ?_)
  · skip
    rw [v0] at H68
    refine px_aload_n dX3_weigh_79 rfl rfl ?_
    refine px_iload_n dX3_weigh_80 rfl rfl ?_
    refine cx_put (k := 13) (i := κ) (f := 0) (r := (120 + 10 * κ)) (j := 0) dX3_weigh_81 gX3_74 rfl (show κ < 2 by omega) (Nat.le_of_ble_eq_true rfl) (by omega) (ow_120 (by omega) _).1 (cpe_13_0 κ _) rfl rfl ?_
    refine px_aload_n dX3_weigh_84 rfl rfl ?_
    refine px_iload_n dX3_weigh_85 rfl rfl ?_
    refine cx_put (k := 13) (i := κ) (f := 1) (r := (120 + 10 * κ)) (j := 1) dX3_weigh_86 gX3_77 rfl (show κ < 2 by omega) (Nat.le_of_ble_eq_true rfl) (by omega) (ow_120 (by omega) _).1 (cpe_13_1 κ _) rfl rfl ?_
    refine px_aload_n dX3_weigh_89 rfl rfl ?_
    refine px_aload_n dX3_weigh_90 rfl rfl ?_
    refine cx_get (k := 13) (i := κ) (f := 1) dX3_weigh_91 gX3_77 rfl (show κ < 2 by omega) rfl ?_
    refine px_if_ne (tgt := 108) dX3_weigh_94 (by decide) (fun H94 => ?_) (fun H94 => ?_)
    · skip
      simp only [up2, upd, if_true, if_false, Nat.reduceEqDiff, v1, v4] at H94
      refine px_iconst (v := 0) dX3_weigh_108 (by decide) ?_
      refine cx_put (k := 13) (i := κ) (f := 11) (r := (120 + 10 * κ)) (j := 5) dX3_weigh_109 gX3_87 rfl (show κ < 2 by omega) (Nat.le_of_ble_eq_true rfl) (by omega) (ow_120 (by omega) _).1 (cpe_13_11 κ _) (by first | rfl | decide) (by first | rfl | decide) ?_
      refine px_return dX3_weigh_112 rfl ?_
      first
      | refine ⟨(f1'.up List.mem_cons_self), by simp [up2, upd, v3], hM.wei hP h5 hg (by simp [up2, upd, v4]) (by simp [up2, upd, v2]) (fun q => ?_) (fun q => ?_) ?_⟩
      | refine ⟨(((f1'.up List.mem_cons_self).up List.mem_cons_self).up List.mem_cons_self), by simp [up2, upd, v3], hM.wei hP h5 hg (by simp [up2, upd, v4]) (by simp [up2, upd, v2]) (fun q => ?_) (fun q => ?_) ?_⟩
      all_goals first
      | (simp_all [up2, upd]; done)
      | (simp [up2, upd, *]; done)
      | (rcases q with q | q <;> contradiction)
    · skip
      simp only [up2, upd, if_true, if_false, Nat.reduceEqDiff, v1, v4] at H94
      refine px_aload_n dX3_weigh_97 rfl rfl ?_
      refine cx_get (k := 13) (i := κ) (f := 10) dX3_weigh_98 gX3_83 rfl (show κ < 2 by omega) rfl ?_
      refine px_if_ne (tgt := 108) dX3_weigh_101 (by decide) (fun H101 => ?_) (fun H101 => ?_)
      · skip
        simp only [up2, upd, if_true, if_false, Nat.reduceEqDiff, v1, v4] at H101
        refine px_iconst (v := 0) dX3_weigh_108 (by decide) ?_
        refine cx_put (k := 13) (i := κ) (f := 11) (r := (120 + 10 * κ)) (j := 5) dX3_weigh_109 gX3_87 rfl (show κ < 2 by omega) (Nat.le_of_ble_eq_true rfl) (by omega) (ow_120 (by omega) _).1 (cpe_13_11 κ _) (by first | rfl | decide) (by first | rfl | decide) ?_
        refine px_return dX3_weigh_112 rfl ?_
        first
        | refine ⟨(f1'.up List.mem_cons_self), by simp [up2, upd, v3], hM.wei hP h5 hg (by simp [up2, upd, v4]) (by simp [up2, upd, v2]) (fun q => ?_) (fun q => ?_) ?_⟩
        | refine ⟨(((f1'.up List.mem_cons_self).up List.mem_cons_self).up List.mem_cons_self), by simp [up2, upd, v3], hM.wei hP h5 hg (by simp [up2, upd, v4]) (by simp [up2, upd, v2]) (fun q => ?_) (fun q => ?_) ?_⟩
        all_goals first
        | (simp_all [up2, upd]; done)
        | (simp [up2, upd, *]; done)
        | (rcases q with q | q <;> contradiction)
      · skip
        simp only [up2, upd, if_true, if_false, Nat.reduceEqDiff, v1, v4] at H101
        refine px_iconst (v := 1) dX3_weigh_104 (by decide) ?_
        refine px_goto (tgt := 109) dX3_weigh_105 (by decide) ?_
        refine cx_put (k := 13) (i := κ) (f := 11) (r := (120 + 10 * κ)) (j := 5) dX3_weigh_109 gX3_87 rfl (show κ < 2 by omega) (Nat.le_of_ble_eq_true rfl) (by omega) (ow_120 (by omega) _).1 (cpe_13_11 κ _) (by first | rfl | decide) (by first | rfl | decide) ?_
        refine px_return dX3_weigh_112 rfl ?_
        first
        | refine ⟨(f1'.up List.mem_cons_self), by simp [up2, upd, v3], hM.wei hP h5 hg (by simp [up2, upd, v4]) (by simp [up2, upd, v2]) (fun q => ?_) (fun q => ?_) ?_⟩
        | refine ⟨(((f1'.up List.mem_cons_self).up List.mem_cons_self).up List.mem_cons_self), by simp [up2, upd, v3], hM.wei hP h5 hg (by simp [up2, upd, v4]) (by simp [up2, upd, v2]) (fun q => ?_) (fun q => ?_) ?_⟩
        all_goals first
        | (simp_all [up2, upd]; done)
        | (simp [up2, upd, *]; done)
        | (rcases q with q | q <;> contradiction)
  · skip
    rw [v0] at H68
    refine px_iload_n dX3_weigh_71 rfl rfl ?_
    refine px_aload_n dX3_weigh_72 rfl rfl ?_
    refine cx_get (k := 13) (i := κ) (f := 1) dX3_weigh_73 gX3_77 rfl (show κ < 2 by omega) rfl ?_
    refine px_icmp_ge (tgt := 89) dX3_weigh_76 (by decide) (fun H76 => ?_) (fun H76 => ?_)
    · skip
      rw [v1] at H76
      refine px_aload_n dX3_weigh_89 rfl rfl ?_
      refine px_aload_n dX3_weigh_90 rfl rfl ?_
      refine cx_get (k := 13) (i := κ) (f := 1) dX3_weigh_91 gX3_77 rfl (show κ < 2 by omega) rfl ?_
      refine px_if_ne (tgt := 108) dX3_weigh_94 (by decide) (fun H94 => ?_) (fun H94 => ?_)
      · skip
        simp only [up2, upd, if_true, if_false, Nat.reduceEqDiff, v1, v4] at H94
        refine px_iconst (v := 0) dX3_weigh_108 (by decide) ?_
        refine cx_put (k := 13) (i := κ) (f := 11) (r := (120 + 10 * κ)) (j := 5) dX3_weigh_109 gX3_87 rfl (show κ < 2 by omega) (Nat.le_of_ble_eq_true rfl) (by omega) (ow_120 (by omega) _).1 (cpe_13_11 κ _) (by first | rfl | decide) (by first | rfl | decide) ?_
        refine px_return dX3_weigh_112 rfl ?_
        first
        | refine ⟨(f1'.up List.mem_cons_self), by simp [up2, upd, v3], hM.wei hP h5 hg (by simp [up2, upd, v4]) (by simp [up2, upd, v2]) (fun q => ?_) (fun q => ?_) ?_⟩
        | refine ⟨(((f1'.up List.mem_cons_self).up List.mem_cons_self).up List.mem_cons_self), by simp [up2, upd, v3], hM.wei hP h5 hg (by simp [up2, upd, v4]) (by simp [up2, upd, v2]) (fun q => ?_) (fun q => ?_) ?_⟩
        all_goals first
        | (simp_all [up2, upd]; done)
        | (simp [up2, upd, *]; done)
        | (rcases q with q | q <;> contradiction)
      · skip
        simp only [up2, upd, if_true, if_false, Nat.reduceEqDiff, v1, v4] at H94
        refine px_aload_n dX3_weigh_97 rfl rfl ?_
        refine cx_get (k := 13) (i := κ) (f := 10) dX3_weigh_98 gX3_83 rfl (show κ < 2 by omega) rfl ?_
        refine px_if_ne (tgt := 108) dX3_weigh_101 (by decide) (fun H101 => ?_) (fun H101 => ?_)
        · skip
          simp only [up2, upd, if_true, if_false, Nat.reduceEqDiff, v1, v4] at H101
          refine px_iconst (v := 0) dX3_weigh_108 (by decide) ?_
          refine cx_put (k := 13) (i := κ) (f := 11) (r := (120 + 10 * κ)) (j := 5) dX3_weigh_109 gX3_87 rfl (show κ < 2 by omega) (Nat.le_of_ble_eq_true rfl) (by omega) (ow_120 (by omega) _).1 (cpe_13_11 κ _) (by first | rfl | decide) (by first | rfl | decide) ?_
          refine px_return dX3_weigh_112 rfl ?_
          first
          | refine ⟨(f1'.up List.mem_cons_self), by simp [up2, upd, v3], hM.wei hP h5 hg (by simp [up2, upd, v4]) (by simp [up2, upd, v2]) (fun q => ?_) (fun q => ?_) ?_⟩
          | refine ⟨(((f1'.up List.mem_cons_self).up List.mem_cons_self).up List.mem_cons_self), by simp [up2, upd, v3], hM.wei hP h5 hg (by simp [up2, upd, v4]) (by simp [up2, upd, v2]) (fun q => ?_) (fun q => ?_) ?_⟩
          all_goals first
          | (simp_all [up2, upd]; done)
          | (simp [up2, upd, *]; done)
          | (rcases q with q | q <;> contradiction)
        · skip
          simp only [up2, upd, if_true, if_false, Nat.reduceEqDiff, v1, v4] at H101
          refine px_iconst (v := 1) dX3_weigh_104 (by decide) ?_
          refine px_goto (tgt := 109) dX3_weigh_105 (by decide) ?_
          refine cx_put (k := 13) (i := κ) (f := 11) (r := (120 + 10 * κ)) (j := 5) dX3_weigh_109 gX3_87 rfl (show κ < 2 by omega) (Nat.le_of_ble_eq_true rfl) (by omega) (ow_120 (by omega) _).1 (cpe_13_11 κ _) (by first | rfl | decide) (by first | rfl | decide) ?_
          refine px_return dX3_weigh_112 rfl ?_
          first
          | refine ⟨(f1'.up List.mem_cons_self), by simp [up2, upd, v3], hM.wei hP h5 hg (by simp [up2, upd, v4]) (by simp [up2, upd, v2]) (fun q => ?_) (fun q => ?_) ?_⟩
          | refine ⟨(((f1'.up List.mem_cons_self).up List.mem_cons_self).up List.mem_cons_self), by simp [up2, upd, v3], hM.wei hP h5 hg (by simp [up2, upd, v4]) (by simp [up2, upd, v2]) (fun q => ?_) (fun q => ?_) ?_⟩
          all_goals first
          | (simp_all [up2, upd]; done)
          | (simp [up2, upd, *]; done)
          | (rcases q with q | q <;> contradiction)
    · skip
      rw [v1] at H76
      refine px_aload_n dX3_weigh_79 rfl rfl ?_
      refine px_iload_n dX3_weigh_80 rfl rfl ?_
      refine cx_put (k := 13) (i := κ) (f := 0) (r := (120 + 10 * κ)) (j := 0) dX3_weigh_81 gX3_74 rfl (show κ < 2 by omega) (Nat.le_of_ble_eq_true rfl) (by omega) (ow_120 (by omega) _).1 (cpe_13_0 κ _) rfl rfl ?_
      refine px_aload_n dX3_weigh_84 rfl rfl ?_
      refine px_iload_n dX3_weigh_85 rfl rfl ?_
      refine cx_put (k := 13) (i := κ) (f := 1) (r := (120 + 10 * κ)) (j := 1) dX3_weigh_86 gX3_77 rfl (show κ < 2 by omega) (Nat.le_of_ble_eq_true rfl) (by omega) (ow_120 (by omega) _).1 (cpe_13_1 κ _) rfl rfl ?_
      refine px_aload_n dX3_weigh_89 rfl rfl ?_
      refine px_aload_n dX3_weigh_90 rfl rfl ?_
      refine cx_get (k := 13) (i := κ) (f := 1) dX3_weigh_91 gX3_77 rfl (show κ < 2 by omega) rfl ?_
      refine px_if_ne (tgt := 108) dX3_weigh_94 (by decide) (fun H94 => ?_) (fun H94 => ?_)
      · skip
        simp only [up2, upd, if_true, if_false, Nat.reduceEqDiff, v1, v4] at H94
        refine px_iconst (v := 0) dX3_weigh_108 (by decide) ?_
        refine cx_put (k := 13) (i := κ) (f := 11) (r := (120 + 10 * κ)) (j := 5) dX3_weigh_109 gX3_87 rfl (show κ < 2 by omega) (Nat.le_of_ble_eq_true rfl) (by omega) (ow_120 (by omega) _).1 (cpe_13_11 κ _) (by first | rfl | decide) (by first | rfl | decide) ?_
        refine px_return dX3_weigh_112 rfl ?_
        first
        | refine ⟨(f1'.up List.mem_cons_self), by simp [up2, upd, v3], hM.wei hP h5 hg (by simp [up2, upd, v4]) (by simp [up2, upd, v2]) (fun q => ?_) (fun q => ?_) ?_⟩
        | refine ⟨(((f1'.up List.mem_cons_self).up List.mem_cons_self).up List.mem_cons_self), by simp [up2, upd, v3], hM.wei hP h5 hg (by simp [up2, upd, v4]) (by simp [up2, upd, v2]) (fun q => ?_) (fun q => ?_) ?_⟩
        all_goals first
        | (simp_all [up2, upd]; done)
        | (simp [up2, upd, *]; done)
        | (rcases q with q | q <;> contradiction)
      · skip
        simp only [up2, upd, if_true, if_false, Nat.reduceEqDiff, v1, v4] at H94
        refine px_aload_n dX3_weigh_97 rfl rfl ?_
        refine cx_get (k := 13) (i := κ) (f := 10) dX3_weigh_98 gX3_83 rfl (show κ < 2 by omega) rfl ?_
        refine px_if_ne (tgt := 108) dX3_weigh_101 (by decide) (fun H101 => ?_) (fun H101 => ?_)
        · skip
          simp only [up2, upd, if_true, if_false, Nat.reduceEqDiff, v1, v4] at H101
          refine px_iconst (v := 0) dX3_weigh_108 (by decide) ?_
          refine cx_put (k := 13) (i := κ) (f := 11) (r := (120 + 10 * κ)) (j := 5) dX3_weigh_109 gX3_87 rfl (show κ < 2 by omega) (Nat.le_of_ble_eq_true rfl) (by omega) (ow_120 (by omega) _).1 (cpe_13_11 κ _) (by first | rfl | decide) (by first | rfl | decide) ?_
          refine px_return dX3_weigh_112 rfl ?_
          first
          | refine ⟨(f1'.up List.mem_cons_self), by simp [up2, upd, v3], hM.wei hP h5 hg (by simp [up2, upd, v4]) (by simp [up2, upd, v2]) (fun q => ?_) (fun q => ?_) ?_⟩
          | refine ⟨(((f1'.up List.mem_cons_self).up List.mem_cons_self).up List.mem_cons_self), by simp [up2, upd, v3], hM.wei hP h5 hg (by simp [up2, upd, v4]) (by simp [up2, upd, v2]) (fun q => ?_) (fun q => ?_) ?_⟩
          all_goals first
          | (simp_all [up2, upd]; done)
          | (simp [up2, upd, *]; done)
          | (rcases q with q | q <;> contradiction)
        · skip
          simp only [up2, upd, if_true, if_false, Nat.reduceEqDiff, v1, v4] at H101
          refine px_iconst (v := 1) dX3_weigh_104 (by decide) ?_
          refine px_goto (tgt := 109) dX3_weigh_105 (by decide) ?_
          refine cx_put (k := 13) (i := κ) (f := 11) (r := (120 + 10 * κ)) (j := 5) dX3_weigh_109 gX3_87 rfl (show κ < 2 by omega) (Nat.le_of_ble_eq_true rfl) (by omega) (ow_120 (by omega) _).1 (cpe_13_11 κ _) (by first | rfl | decide) (by first | rfl | decide) ?_
          refine px_return dX3_weigh_112 rfl ?_
          first
          | refine ⟨(f1'.up List.mem_cons_self), by simp [up2, upd, v3], hM.wei hP h5 hg (by simp [up2, upd, v4]) (by simp [up2, upd, v2]) (fun q => ?_) (fun q => ?_) ?_⟩
          | refine ⟨(((f1'.up List.mem_cons_self).up List.mem_cons_self).up List.mem_cons_self), by simp [up2, upd, v3], hM.wei hP h5 hg (by simp [up2, upd, v4]) (by simp [up2, upd, v2]) (fun q => ?_) (fun q => ?_) ?_⟩
          all_goals first
          | (simp_all [up2, upd]; done)
          | (simp [up2, upd, *]; done)
          | (rcases q with q | q <;> contradiction)
