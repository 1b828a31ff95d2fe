/-! THE REFERENCE: partings -/
/-- the hank that a parting names for a part -/
def dg (p k : Nat) : Nat := p / 6 ^ (4 - k) % 6
theorem dg_lt (p k : Nat) : dg p k < 6 := Nat.mod_lt _ (by decide)
theorem n6d {q : Nat} (h : q < 2 ^ 31) : nI q / 6 = nI (q / 6) := by rw [show (6 : Int32) = nI 6 from rfl, pk_div h (by decide) (by decide)]
theorem n6r {q : Nat} (h : q < 2 ^ 31) : nI q - nI q / 6 * 6 = nI (q % 6) := by rw [show (6 : Int32) = nI 6 from rfl, pk_rem h (by decide) (by decide)]
theorem i4 {i : Nat} (h : i < 5) : (4 : Int32) - nI i = nI (4 - i) := by rw [show (4 : Int32) = nI 4 from rfl, pk_sub (by omega)]
theorem i4s {i : Nat} : (4 : Int32) - nI i + -1 = 4 - nI (i + 1) := by
  simp only [nI_succ, Int32.sub_eq_add_neg, Int32.neg_add, Int32.add_assoc]
theorem i4neg {i : Nat} (h : i ≤ 5) : (4 : Int32) - nI i < 0 ↔ 5 ≤ i := by
  rcases (show i = 0 ∨ i = 1 ∨ i = 2 ∨ i = 3 ∨ i = 4 ∨ i = 5 by omega) with rfl | rfl | rfl | rfl | rfl | rfl <;> decide
theorem p6_lt {p i : Nat} (h : p < 7776) : p / 6 ^ i < 2 ^ 31 := Nat.lt_of_le_of_lt (Nat.div_le_self _ _) (by omega)
theorem p6_s {p i : Nat} : p / 6 ^ i / 6 = p / 6 ^ (i + 1) := by rw [Nat.div_div_eq_div_mul, Nat.pow_succ]
set_option maxHeartbeats 4000000 in
set_option maxRecDepth 100000 in
theorem lp_digits (G : Gt) (m : Nat) (h0 : Ht) (S : MS) (p : Nat) (hp : p < 7776) : ∀ (kk i : Nat) (T : MS), fr [30] S T → (∀ k, 5 ≤ k + i → k < 5 → T 30 k = nI (dg p k)) → i ≤ 5 → 6 ≤ i + kk → PX G (MPic G m h0) 1 Y12_findDigits 4 [some (.ref m), some (.int (nI p)), some (.int (nI (p / 6 ^ i))), some (.int (4 - nI i))] [] T 0 0 (rv (fun S' => fr [30] S S' ∧ ∀ k, k < 5 → S' 30 k = nI (dg p k))) := by
  intro kk
  induction kk with
  | zero => intro i T h1 h2 h3 h4; omega
  | succ kk ih =>
    intro i T hf hd hi hk
    refine px_iload_n dX12_findDigits_4 rfl rfl ?_
    refine px_if_lt (tgt := 29) dX12_findDigits_5 (by decide) (fun H5 => ?_) (fun H5 => ?_)
    · skip
      rw [i4neg hi] at H5
      refine px_return dX12_findDigits_29 rfl ?_
      exact ⟨hf, fun k h1 => hd k (by omega) h1⟩
    · skip
      rw [i4neg hi] at H5
      have l5 : i < 5 := by omega
      refine px_aload_n dX12_findDigits_8 rfl rfl ?_
      refine mx_getA (k := 30) (j := 17) dX12_findDigits_9 gX12_67 (fun _ => rfl) ?_
      refine px_iload_n dX12_findDigits_12 rfl rfl ?_
      refine px_iload_n dX12_findDigits_13 rfl rfl ?_
      refine px_bipush (v := 6) dX12_findDigits_14 (by decide) ?_
      refine px_irem dX12_findDigits_16 (by decide) ?_
      refine px_top (n6r (p6_lt hp)) ?_
      refine mx_iast (j := 17) (k := 30) (4 - i) dX12_findDigits_17 rfl (i4 l5) (by omega) (by decide) ?_
      refine px_iload_n dX12_findDigits_18 rfl rfl ?_
      refine px_bipush (v := 6) dX12_findDigits_19 (by decide) ?_
      refine px_idiv dX12_findDigits_21 (by decide) ?_
      refine px_top ((n6d (p6_lt hp)).trans (by rw [p6_s])) ?_
      refine px_istore_n2 dX12_findDigits_22 (by decide) rfl ?_
      refine px_iinc_3 (v := (-1)) dX12_findDigits_23 (by decide) (by decide) rfl ?_
      refine px_goto (tgt := 4) dX12_findDigits_26 (by decide) ?_
      refine px_lw (ls' := [some (.ref m), some (.int (nI p)), some (.int (nI (p / 6 ^ (i + 1)))), some (.int (4 - nI (i + 1)))]) (by simp [LW, i4s]) (ih (i + 1) _ (hf.up (by decide)) (fun k h1 h2 => ?_) (by omega) (by omega))
      rw [up2_eq]
      by_cases e : k = 4 - i
      · subst e
        rw [pk_us]
        unfold dg
        rw [show 4 - (4 - i) = i by omega]
      · rw [pk_un e]
        exact hd k (by omega) h2
set_option maxHeartbeats 4000000 in
set_option maxRecDepth 100000 in
theorem c_X12_findDigits (G : Gt) (m : Nat) (h0 : Ht) (S : MS) (p : Nat) (hp : p < 7776) : PC G (MPic G m h0) 1 Y12_findDigits [.ref m, .int (nI p)] S 0 0 (rv (fun S' => fr [30] S S' ∧ ∀ k, k < 5 → S' 30 k = nI (dg p k))) := by
  refine pc_of (ls := [some (.ref m), some (.int (nI p)), none, none]) (by decide +kernel) rfl (Nat.le_of_ble_eq_true rfl) ?_
  refine px_iload_n dX12_findDigits_0 rfl rfl ?_
  refine px_istore_n2 dX12_findDigits_1 (by decide) rfl ?_
  refine px_iconst (v := 4) dX12_findDigits_2 (by decide) ?_
  refine px_istore_n3 dX12_findDigits_3 (by decide) rfl ?_
  exact px_lw (ls' := [some (.ref m), some (.int (nI p)), some (.int (nI (p / 6 ^ 0))), some (.int (4 - nI 0))]) (by simp [LW, nI_0]) (lp_digits G m h0 S p hp 6 0 S fr.rf (fun k h1 h2 => by omega) (by omega) (by omega))
/-- what a hank gives by the first parts of a parting -/
def gv5 (S : MS) (c p h : Nat) : Nat → Int32
  | 0 => 0
  | k + 1 => gv5 S c p h k + (if dg p k = h then mTk S c (nI k) else 0)
def gvn (S : MS) (c p h : Nat) : Int32 := gv5 S c p h 5
theorem gv5_c {S T : MS} {c p h : Nat} (hf : fr scr S T) : ∀ k, gv5 T c p h k = gv5 S c p h k
  | 0 => rfl
  | k + 1 => by rw [gv5, gv5, gv5_c hf k, mTk_c hf]
theorem gvn_c {S T : MS} {c p h : Nat} (hf : fr scr S T) : gvn T c p h = gvn S c p h := gv5_c hf 5
theorem gv5_up {S T : MS} {c p k : Nat} (hk : k < 5) (ht : ∀ h, h < 6 → T 31 h = gv5 S c p h k) : ∀ h, h < 6 → up2 T 31 (dg p k) (T 31 (dg p k) + mTk S c (nI k)) 31 h = gv5 S c p h (k + 1) := by
  intro h hh
  rw [up2_eq, gv5]
  by_cases e : h = dg p k
  · subst e
    rw [pk_us, if_pos rfl, ht _ (dg_lt p k)]
  · rw [pk_un e, if_neg (fun q => e q.symm), ht h hh, Int32.add_zero]
/-- the first of n places with P (n: none) -/
def f1 (Pr : Nat → Bool) (n : Nat) : Nat := fa_first Pr n
theorem f1_yes {Pr : Nat → Bool} {i n : Nat} (hi : i < n) (hp : Pr i = true) (h : ∀ k, k < i → Pr k = false) : f1 Pr n = i := by
  unfold f1
  have h1 := fa_first_le Pr n
  rcases Nat.lt_or_ge (fa_first Pr n) i with q | q
  · have h2 := fa_first_yes Pr n (by omega)
    rw [h _ q] at h2
    cases h2
  · rcases Nat.lt_or_ge i (fa_first Pr n) with q2 | q2
    · rw [fa_first_no Pr n i q2] at hp
      cases hp
    · omega
theorem f1_no {Pr : Nat → Bool} {n : Nat} (h : ∀ k, k < n → Pr k = false) : f1 Pr n = n := by
  unfold f1
  have h1 := fa_first_le Pr n
  rcases Nat.lt_or_ge (fa_first Pr n) n with q | q
  · have h2 := fa_first_yes Pr n q
    rw [h _ q] at h2
    cases h2
  · omega
def oN (q : Nat) : Nat := if q < 2 then 0 else if q = 2 then 1 else if q = 5 then 3 else 2
def tN2 (q : Nat) : Nat := if q = 0 then 1 else if q < 3 then 2 else if q = 3 then 3 else 4
theorem mOne_n {q : Nat} (h : q < 6) : mOne (nI q) = nI (oN q) := by rcases (show q = 0 ∨ q = 1 ∨ q = 2 ∨ q = 3 ∨ q = 4 ∨ q = 5 by omega) with rfl | rfl | rfl | rfl | rfl | rfl <;> decide
theorem mOther_n {q : Nat} (h : q < 6) : mOther (nI q) = nI (tN2 q) := by rcases (show q = 0 ∨ q = 1 ∨ q = 2 ∨ q = 3 ∨ q = 4 ∨ q = 5 by omega) with rfl | rfl | rfl | rfl | rfl | rfl <;> decide
theorem oN_lt {q : Nat} (h : q < 6) : oN q < 5 ∧ tN2 q < 5 := by rcases (show q = 0 ∨ q = 1 ∨ q = 2 ∨ q = 3 ∨ q = 4 ∨ q = 5 by omega) with rfl | rfl | rfl | rfl | rfl | rfl <;> decide
def w1 (p n k : Nat) : Bool := decide (n ≤ dg p k)
def w2 (S : MS) (c p h : Nat) : Bool := decide (S 2 h < gvn S c p h)
def w3 (S : MS) (c p q : Nat) : Bool := decide (mMeet S c (nI q) (dg p (oN q)) (dg p (tN2 q)) = 0)
/-- the first that is wrong of a parting; -1: none -/
def jd (S : MS) (n c p : Nat) : Int32 := if f1 (w1 p n) 5 < 5 then nI (10 + f1 (w1 p n) 5) else if f1 (w2 S c p) n < n then nI (20 + f1 (w2 S c p) n) else if f1 (w3 S c p) 6 < 6 then nI (40 + f1 (w3 S c p) 6) else -1
def scj : List Nat := [28, 29, 30, 31]
theorem frj {S T : MS} (h : fr scj S T) : fr scr S T := h.mono (by decide)
set_option maxHeartbeats 4000000 in
set_option maxRecDepth 100000 in
theorem lp_jd1 (G : Gt) (m : Nat) (h0 : Ht) (S : MS) (n c p : Nat) (hI : HI S n) (hc : c < 8) (hp : p < 7776) (K : ∀ T : MS, fr scj S T → (∀ k, k < 5 → T 30 k = nI (dg p k)) → (∀ k, k < 5 → dg p k < n) → PX G (MPic G m h0) 5 Y12_judged 36 [some (.ref m), some (.int (nI c)), some (.int (nI p)), some (.int (nI 5))] [] T 0 0 (ri (fun x S' => x = jd S n c p ∧ fr scj S S'))) : ∀ (kk i : Nat) (T : MS), fr scj S T → (∀ k, k < 5 → T 30 k = nI (dg p k)) → (∀ k, k < i → dg p k < n) → i ≤ 5 → 6 ≤ i + kk → PX G (MPic G m h0) 5 Y12_judged 7 [some (.ref m), some (.int (nI c)), some (.int (nI p)), some (.int (nI i))] [] T 0 0 (ri (fun x S' => x = jd S n c p ∧ fr scj S S')) := by
  intro kk
  induction kk with
  | zero => intro i T h1 h2 h3 h4 h5; omega
  | succ kk ih =>
    intro i T hf hd hb hi hk
    refine px_iload_n dX12_judged_7 rfl rfl ?_
    refine px_iconst (v := 5) dX12_judged_8 (by decide) ?_
    refine px_icmp_ge (tgt := 36) dX12_judged_9 (by decide) (fun H9 => ?_) (fun H9 => ?_)
    · skip
      have e5 : i = 5 := by have := ge_n (a := i) (b := 5) (by omega) (by omega) H9; omega
      subst e5
      exact K T hf hd hb
    · skip
      have l5 : i < 5 := lt_n (a := i) (b := 5) (by omega) (by omega) H9
      refine px_aload_n dX12_judged_12 rfl rfl ?_
      refine mx_getA (k := 30) (j := 17) dX12_judged_13 gX12_67 (fun _ => rfl) ?_
      refine px_iload_n dX12_judged_16 rfl rfl ?_
      refine mx_iald (j := 17) (k := 30) _ dX12_judged_17 rfl rfl (by omega) (by decide) ?_
      refine px_aload_n dX12_judged_18 rfl rfl ?_
      refine mx_getI (k := 1) dX12_judged_19 gX12_106 (fun _ => rfl) ?_
      refine px_icmp_lt (tgt := 30) dX12_judged_22 (by decide) (fun H22 => ?_) (fun H22 => ?_)
      · skip
        rw [hd i l5, (hI.go (frj hf)).1] at H22
        have h6 := hI.2.1
        have d6 := dg_lt p i
        have b22 := lt_n (by omega) (by omega) H22
        refine px_iinc_3 (v := 1) dX12_judged_30 (by decide) (by decide) rfl ?_
        refine px_goto (tgt := 7) dX12_judged_33 (by decide) ?_
        rw [nI_1]
        refine ih (i + 1) T hf hd (fun k hk => ?_) (by omega) (by omega)
        rcases Nat.lt_or_ge k i with q | q
        · exact hb k q
        · rw [show k = i by omega]; exact b22
      · skip
        rw [hd i l5, (hI.go (frj hf)).1] at H22
        have h6 := hI.2.1
        have d6 := dg_lt p i
        have b22 := ge_n (by omega) (by omega) H22
        have e22 : f1 (w1 p n) 5 = i := f1_yes l5 (by simp [w1, b22]) (fun k hk => by have := hb k hk; simp [w1]; omega)
        refine px_bipush (v := 10) dX12_judged_25 (by decide) ?_
        refine px_iload_n dX12_judged_27 rfl rfl ?_
        refine px_iadd dX12_judged_28 ?_
        refine px_iretI dX12_judged_29 rfl ?_
        exact ⟨by rw [jd, e22, if_pos l5, show (10 : Int32) = nI 10 from rfl, nI_add], hf⟩
set_option maxHeartbeats 4000000 in
set_option maxRecDepth 100000 in
theorem lp_jd2 (G : Gt) (m : Nat) (h0 : Ht) (S : MS) (n c p : Nat) (hI : HI S n) (hc : c < 8) (hp : p < 7776) (K : ∀ T : MS, fr scj S T → (∀ k, k < 5 → T 30 k = nI (dg p k)) → (∀ h, h < 6 → T 31 h = 0) → PX G (MPic G m h0) 5 Y12_judged 57 [some (.ref m), some (.int (nI c)), some (.int (nI p)), some (.int (nI 6))] [] T 0 0 (ri (fun x S' => x = jd S n c p ∧ fr scj S S'))) : ∀ (kk i : Nat) (T : MS), fr scj S T → (∀ k, k < 5 → T 30 k = nI (dg p k)) → (∀ h, h < i → T 31 h = 0) → i ≤ 6 → 7 ≤ i + kk → PX G (MPic G m h0) 5 Y12_judged 38 [some (.ref m), some (.int (nI c)), some (.int (nI p)), some (.int (nI i))] [] T 0 0 (ri (fun x S' => x = jd S n c p ∧ fr scj S S')) := by
  intro kk
  induction kk with
  | zero => intro i T h1 h2 h3 h4 h5; omega
  | succ kk ih =>
    intro i T hf hd hb hi hk
    refine px_iload_n dX12_judged_38 rfl rfl ?_
    refine px_bipush (v := 6) dX12_judged_39 (by decide) ?_
    refine px_icmp_ge (tgt := 57) dX12_judged_41 (by decide) (fun H41 => ?_) (fun H41 => ?_)
    · skip
      have e5 : i = 6 := by have := ge_n (a := i) (b := 6) (by omega) (by omega) H41; omega
      subst e5
      exact K T hf hd hb
    · skip
      have l5 : i < 6 := lt_n (a := i) (b := 6) (by omega) (by omega) H41
      refine px_aload_n dX12_judged_44 rfl rfl ?_
      refine mx_getA (k := 31) (j := 18) dX12_judged_45 gX12_70 (fun _ => rfl) ?_
      refine px_iload_n dX12_judged_48 rfl rfl ?_
      refine px_iconst (v := 0) dX12_judged_49 (by decide) ?_
      refine mx_iast (j := 18) (k := 31) _ dX12_judged_50 rfl rfl (by omega) (by decide) ?_
      refine px_iinc_3 (v := 1) dX12_judged_51 (by decide) (by decide) rfl ?_
      refine px_goto (tgt := 38) dX12_judged_54 (by decide) ?_
      rw [nI_1]
      refine ih (i + 1) _ (hf.up (by decide)) hd (fun h hh => ?_) (by omega) (by omega)
      rw [up2_eq]
      by_cases e : h = i
      · subst e; exact pk_us
      · rw [pk_un e]; exact hb h (by omega)
set_option maxHeartbeats 4000000 in
set_option maxRecDepth 100000 in
theorem lp_jd3 (G : Gt) (m : Nat) (h0 : Ht) (S : MS) (n c p : Nat) (hI : HI S n) (hc : c < 8) (hp : p < 7776) (K : ∀ T : MS, fr scj S T → (∀ k, k < 5 → T 30 k = nI (dg p k)) → (∀ h, h < 6 → T 31 h = gvn S c p h) → PX G (MPic G m h0) 5 Y12_judged 90 [some (.ref m), some (.int (nI c)), some (.int (nI p)), some (.int (nI 5))] [] T 0 0 (ri (fun x S' => x = jd S n c p ∧ fr scj S S'))) : ∀ (kk i : Nat) (T : MS), fr scj S T → (∀ k, k < 5 → T 30 k = nI (dg p k)) → (∀ h, h < 6 → T 31 h = gv5 S c p h i) → i ≤ 5 → 6 ≤ i + kk → PX G (MPic G m h0) 5 Y12_judged 59 [some (.ref m), some (.int (nI c)), some (.int (nI p)), some (.int (nI i))] [] T 0 0 (ri (fun x S' => x = jd S n c p ∧ fr scj S S')) := by
  intro kk
  induction kk with
  | zero => intro i T h1 h2 h3 h4 h5; omega
  | succ kk ih =>
    intro i T hf hd hb hi hk
    refine px_iload_n dX12_judged_59 rfl rfl ?_
    refine px_iconst (v := 5) dX12_judged_60 (by decide) ?_
    refine px_icmp_ge (tgt := 90) dX12_judged_61 (by decide) (fun H61 => ?_) (fun H61 => ?_)
    · skip
      have e5 : i = 5 := by have := ge_n (a := i) (b := 5) (by omega) (by omega) H61; omega
      subst e5
      exact K T hf hd hb
    · skip
      have l5 : i < 5 := lt_n (a := i) (b := 5) (by omega) (by omega) H61
      have d6 := dg_lt p i
      refine px_aload_n dX12_judged_64 rfl rfl ?_
      refine mx_getA (k := 31) (j := 18) dX12_judged_65 gX12_70 (fun _ => rfl) ?_
      refine px_aload_n dX12_judged_68 rfl rfl ?_
      refine mx_getA (k := 30) (j := 17) dX12_judged_69 gX12_67 (fun _ => rfl) ?_
      refine px_iload_n dX12_judged_72 rfl rfl ?_
      refine mx_iald (j := 17) (k := 30) _ dX12_judged_73 rfl rfl (by omega) (by decide) ?_
      refine px_dup2 dX12_judged_74 rfl rfl ?_
      refine mx_iald (j := 18) (k := 31) (dg p i) dX12_judged_75 rfl (hd i l5) (by omega) (by decide) ?_
      refine px_aload_n dX12_judged_76 rfl rfl ?_
      refine px_iload_n dX12_judged_77 rfl rfl ?_
      refine px_iload_n dX12_judged_78 rfl rfl ?_
      refine mx_callI2 dX12_judged_79 lX12_124 rfl (c_takes G m h0 S T c (nI i) (frj hf) hc) (by decide) (Nat.le_of_ble_eq_true rfl) (fun x79 S79 Q79 => ?_)
      obtain ⟨rfl, e79⟩ := Q79
      obtain rfl := e79.symm
      refine px_iadd dX12_judged_82 ?_
      refine mx_iast (j := 18) (k := 31) (dg p i) dX12_judged_83 rfl (hd i l5) (by omega) (by decide) ?_
      refine px_iinc_3 (v := 1) dX12_judged_84 (by decide) (by decide) rfl ?_
      refine px_goto (tgt := 59) dX12_judged_87 (by decide) ?_
      rw [nI_1]
      exact ih (i + 1) _ (hf.up (by decide)) hd (gv5_up l5 hb) (by omega) (by omega)
set_option maxHeartbeats 4000000 in
set_option maxRecDepth 100000 in
theorem lp_jd4 (G : Gt) (m : Nat) (h0 : Ht) (S : MS) (n c p : Nat) (hI : HI S n) (hc : c < 8) (hp : p < 7776) (hb1 : (∀ k, k < 5 → dg p k < n)) (K : ∀ T : MS, fr scj S T → (∀ k, k < 5 → T 30 k = nI (dg p k)) → (∀ h, h < n → ¬ S 2 h < gvn S c p h) → PX G (MPic G m h0) 5 Y12_judged 126 [some (.ref m), some (.int (nI c)), some (.int (nI p)), some (.int (nI n))] [] T 0 0 (ri (fun x S' => x = jd S n c p ∧ fr scj S S'))) : ∀ (kk i : Nat) (T : MS), fr scj S T → (∀ k, k < 5 → T 30 k = nI (dg p k)) → (∀ h, h < 6 → T 31 h = gvn S c p h) → (∀ h, h < i → ¬ S 2 h < gvn S c p h) → i ≤ n → n + 1 ≤ i + kk → PX G (MPic G m h0) 5 Y12_judged 92 [some (.ref m), some (.int (nI c)), some (.int (nI p)), some (.int (nI i))] [] T 0 0 (ri (fun x S' => x = jd S n c p ∧ fr scj S S')) := by
  intro kk
  induction kk with
  | zero => intro i T h1 h2 h3 h4 h5 h6; omega
  | succ kk ih =>
    intro i T hf hd hg hb hi hk
    have h6 := hI.2.1
    refine px_iload_n dX12_judged_92 rfl rfl ?_
    refine px_aload_n dX12_judged_93 rfl rfl ?_
    refine mx_getI (k := 1) dX12_judged_94 gX12_106 (fun _ => rfl) ?_
    refine px_icmp_ge (tgt := 126) dX12_judged_97 (by decide) (fun H97 => ?_) (fun H97 => ?_)
    · skip
      rw [(hI.go (frj hf)).1] at H97
      have e5 : i = n := by have := ge_n (by omega) (by omega) H97; omega
      rw [e5]
      rw [e5] at hb
      exact K T hf hd hb
    · skip
      rw [(hI.go (frj hf)).1] at H97
      have l5 : i < n := lt_n (by omega) (by omega) H97
      refine px_aload_n dX12_judged_100 rfl rfl ?_
      refine mx_getA (k := 31) (j := 18) dX12_judged_101 gX12_70 (fun _ => rfl) ?_
      refine px_iload_n dX12_judged_104 rfl rfl ?_
      refine mx_iald (j := 18) (k := 31) _ dX12_judged_105 rfl rfl (by omega) (by decide) ?_
      refine px_aload_n dX12_judged_106 rfl rfl ?_
      refine mx_getA (k := 2) (j := 0) dX12_judged_107 gX12_7 (fun _ => rfl) ?_
      refine px_iload_n dX12_judged_110 rfl rfl ?_
      refine mx_iald (j := 0) (k := 2) _ dX12_judged_111 rfl rfl (by omega) (by decide) ?_
      refine px_icmp_le (tgt := 120) dX12_judged_112 (by decide) (fun H112 => ?_) (fun H112 => ?_)
      · skip
        rw [hg i (by omega), hf 2 (by decide)] at H112
        refine px_iinc_3 (v := 1) dX12_judged_120 (by decide) (by decide) rfl ?_
        refine px_goto (tgt := 92) dX12_judged_123 (by decide) ?_
        rw [nI_1]
        refine ih (i + 1) T hf hd hg (fun k hk => ?_) (by omega) (by omega)
        rcases Nat.lt_or_ge k i with q | q
        · exact hb k q
        · rw [show k = i by omega]; exact H112
      · skip
        rw [hg i (by omega), hf 2 (by decide)] at H112
        refine px_bipush (v := 20) dX12_judged_115 (by decide) ?_
        refine px_iload_n dX12_judged_117 rfl rfl ?_
        refine px_iadd dX12_judged_118 ?_
        refine px_iretI dX12_judged_119 rfl ?_
        have e1 : f1 (w1 p n) 5 = 5 := f1_no (fun k hk => by have := hb1 k hk; simp [w1]; omega)
        have e2 : f1 (w2 S c p) n = i := f1_yes l5 (by simp [w2, H112]) (fun k hk => by have := hb k hk; simp [w2, this])
        exact ⟨by rw [jd, e1, if_neg (by omega), e2, if_pos l5, show (20 : Int32) = nI 20 from rfl, nI_add], hf⟩
set_option maxHeartbeats 4000000 in
set_option maxRecDepth 100000 in
theorem lp_jd5 (G : Gt) (m : Nat) (h0 : Ht) (S : MS) (n c p : Nat) (hI : HI S n) (hc : c < 8) (hp : p < 7776) (hb1 : (∀ k, k < 5 → dg p k < n)) (hb2 : ∀ h, h < n → ¬ S 2 h < gvn S c p h) : ∀ (kk i : Nat) (T : MS), fr scj S T → (∀ k, k < 5 → T 30 k = nI (dg p k)) → (∀ q, q < i → ¬ mMeet S c (nI q) (dg p (oN q)) (dg p (tN2 q)) = 0) → i ≤ 6 → 7 ≤ i + kk → PX G (MPic G m h0) 5 Y12_judged 128 [some (.ref m), some (.int (nI c)), some (.int (nI p)), some (.int (nI i))] [] T 0 0 (ri (fun x S' => x = jd S n c p ∧ fr scj S S')) := by
  intro kk
  induction kk with
  | zero => intro i T h1 h2 h3 h4 h5; omega
  | succ kk ih =>
    intro i T hf hd hb hi hk
    have e1 : f1 (w1 p n) 5 = 5 := f1_no (fun k hk => by have := hb1 k hk; simp [w1]; omega)
    have e2 : f1 (w2 S c p) n = n := f1_no (fun k hk => by have := hb2 k hk; simp [w2, this])
    refine px_iload_n dX12_judged_128 rfl rfl ?_
    refine px_bipush (v := 6) dX12_judged_129 (by decide) ?_
    refine px_icmp_ge (tgt := 172) dX12_judged_131 (by decide) (fun H131 => ?_) (fun H131 => ?_)
    · skip
      have e5 : i = 6 := by have := ge_n (a := i) (b := 6) (by omega) (by omega) H131; omega
      subst e5
      refine px_iconst (v := (-1)) dX12_judged_172 (by decide) ?_
      refine px_iretI dX12_judged_173 rfl ?_
      have e3 : f1 (w3 S c p) 6 = 6 := f1_no (fun k hk => by have := hb k hk; simp [w3, this])
      exact ⟨by rw [jd, e1, if_neg (by omega), e2, if_neg (by omega), e3, if_neg (by omega)], hf⟩
    · skip
      have l5 : i < 6 := lt_n (a := i) (b := 6) (by omega) (by omega) H131
      have ob := oN_lt l5
      refine px_aload_n dX12_judged_134 rfl rfl ?_
      refine px_iload_n dX12_judged_135 rfl rfl ?_
      refine px_iload_n dX12_judged_136 rfl rfl ?_
      refine px_aload_n dX12_judged_137 rfl rfl ?_
      refine mx_getA (k := 30) (j := 17) dX12_judged_138 gX12_67 (fun _ => rfl) ?_
      refine px_iload_n dX12_judged_141 rfl rfl ?_
      refine px_pure1 dX12_judged_142 lX12_236 (c_X12_oneOf G _) (by decide) (Nat.le_of_ble_eq_true rfl) ?_
      refine mx_iald (j := 17) (k := 30) (oN i) dX12_judged_145 rfl (mOne_n l5) (by omega) (by decide) ?_
      refine px_top (hd _ ob.1) ?_
      refine px_aload_n dX12_judged_146 rfl rfl ?_
      refine mx_getA (k := 30) (j := 17) dX12_judged_147 gX12_67 (fun _ => rfl) ?_
      refine px_iload_n dX12_judged_150 rfl rfl ?_
      refine px_pure1 dX12_judged_151 lX12_239 (c_X12_otherOf G _) (by decide) (Nat.le_of_ble_eq_true rfl) ?_
      refine mx_iald (j := 17) (k := 30) (tN2 i) dX12_judged_154 rfl (mOther_n l5) (by omega) (by decide) ?_
      refine px_top (hd _ ob.2) ?_
      refine mx_callI4 dX12_judged_155 lX12_252 rfl (c_X12_doMeet G m h0 T n c (dg p (oN i)) (dg p (tN2 i)) (nI i) (hI.go (frj hf)) hc (hb1 _ ob.1) (hb1 _ ob.2)) (by decide) (Nat.le_of_ble_eq_true rfl) (fun x155 S155 Q155 => ?_)
      obtain ⟨rfl, f155⟩ := Q155
      have g155 : fr scj S S155 := hf.tr (f155.mono (by decide))
      have d155 : ∀ k, k < 5 → S155 30 k = nI (dg p k) := fun k hk => by rw [f155 30 (by decide)]; exact hd k hk
      refine px_if_ne (tgt := 166) dX12_judged_158 (by decide) (fun H158 => ?_) (fun H158 => ?_)
      · skip
        rw [mMeet_c (frj hf)] at H158
        refine px_iinc_3 (v := 1) dX12_judged_166 (by decide) (by decide) rfl ?_
        refine px_goto (tgt := 128) dX12_judged_169 (by decide) ?_
        rw [nI_1]
        refine ih (i + 1) _ g155 d155 (fun k hk => ?_) (by omega) (by omega)
        rcases Nat.lt_or_ge k i with q | q
        · exact hb k q
        · rw [show k = i by omega]; exact H158
      · skip
        rw [mMeet_c (frj hf)] at H158
        refine px_bipush (v := 40) dX12_judged_161 (by decide) ?_
        refine px_iload_n dX12_judged_163 rfl rfl ?_
        refine px_iadd dX12_judged_164 ?_
        refine px_iretI dX12_judged_165 rfl ?_
        have e3 : f1 (w3 S c p) 6 = i := f1_yes l5 (by simp [w3, H158]) (fun k hk => by have := hb k hk; simp [w3, this])
        exact ⟨by rw [jd, e1, if_neg (by omega), e2, if_neg (by omega), e3, if_pos l5, show (40 : Int32) = nI 40 from rfl, nI_add], g155⟩
set_option maxHeartbeats 4000000 in
set_option maxRecDepth 100000 in
theorem c_X12_judged (G : Gt) (m : Nat) (h0 : Ht) (S : MS) (n c p : Nat) (hI : HI S n) (hc : c < 8) (hp : p < 7776) : PC G (MPic G m h0) 5 Y12_judged [.ref m, .int (nI c), .int (nI p)] S 0 0 (ri (fun x S' => x = jd S n c p ∧ fr scj S S')) := by
  refine pc_of (ls := [some (.ref m), some (.int (nI c)), some (.int (nI p)), none]) (by decide +kernel) rfl (Nat.le_of_ble_eq_true rfl) ?_
  refine px_aload_n dX12_judged_0 rfl rfl ?_
  refine px_iload_n dX12_judged_1 rfl rfl ?_
  refine mx_callV1 dX12_judged_2 lX12_256 rfl (c_X12_findDigits G m h0 S p hp) (by decide) (Nat.le_of_ble_eq_true rfl) (fun S2 Q2 => ?_)
  obtain ⟨f2, d2⟩ := Q2
  have f2 : fr scj S S2 := f2.mono (by decide)
  refine px_iconst (v := 0) dX12_judged_5 (by decide) ?_
  refine px_istore_n3 dX12_judged_6 (by decide) rfl ?_
  refine lp_jd1 G m h0 S n c p hI hc hp (fun T1 f1 d1 hb1 => ?_) 6 0 S2 f2 d2 (fun k hk => by omega) (by omega) (by omega)
  refine px_iconst (v := 0) dX12_judged_36 (by decide) ?_
  refine px_istore_n3 dX12_judged_37 (by decide) rfl ?_
  refine lp_jd2 G m h0 S n c p hI hc hp (fun T2 f2b d2b z2 => ?_) 7 0 T1 f1 d1 (fun k hk => by omega) (by omega) (by omega)
  refine px_iconst (v := 0) dX12_judged_57 (by decide) ?_
  refine px_istore_n3 dX12_judged_58 (by decide) rfl ?_
  refine lp_jd3 G m h0 S n c p hI hc hp (fun T3 f3 d3 g3 => ?_) 6 0 T2 f2b d2b (fun h hh => z2 h hh) (by omega) (by omega)
  refine px_iconst (v := 0) dX12_judged_90 (by decide) ?_
  refine px_istore_n3 dX12_judged_91 (by decide) rfl ?_
  refine lp_jd4 G m h0 S n c p hI hc hp hb1 (fun T4 f4 d4 hb2 => ?_) (n + 1) 0 T3 f3 d3 g3 (fun k hk => by omega) (by omega) (by omega)
  refine px_iconst (v := 0) dX12_judged_126 (by decide) ?_
  refine px_istore_n3 dX12_judged_127 (by decide) rfl ?_
  exact lp_jd5 G m h0 S n c p hI hc hp hb1 hb2 7 0 T4 f4 d4 (fun k hk => by omega) (by omega) (by omega)
def f_judge (S : MS) (c p : Int32) : Int32 := if mCt S c = 0 ∨ mIn p 0 7775 = 0 then -2 else jd S (hN S) c.toNatClampNeg p.toNatClampNeg
set_option maxHeartbeats 4000000 in
set_option maxRecDepth 100000 in
theorem c_X12_judge (G : Gt) (m : Nat) (h0 : Ht) (S : MS) (c p : Int32) (n : Nat) (hI : HI S n) (cn : Nat) (hC : S 6 0 = nI cn) (hcn : cn ≤ 8) : PC G (MPic G m h0) 6 Y12_judge [.ref m, .int c, .int p] S 0 0 (ri (fun x S' => x = f_judge S c p ∧ fr scr S S')) := by
  have eN := hN_eq hI.1 (by have := hI.2.1; omega)
  refine pc_of (ls := [some (.ref m), some (.int c), some (.int p)]) (by decide +kernel) rfl (Nat.le_of_ble_eq_true rfl) ?_
  refine px_aload_n dX12_judge_0 rfl rfl ?_
  refine px_iload_n dX12_judge_1 rfl rfl ?_
  refine mx_callI1 dX12_judge_2 lX12_127 rfl (c_X12_isCoat G m h0 S _) (by decide) (Nat.le_of_ble_eq_true rfl) (fun x2 S2 Q2 => ?_)
  obtain ⟨rfl, e2⟩ := Q2
  obtain rfl := e2.symm
  refine px_if_eq (tgt := 28) dX12_judge_5 (by decide) (fun H5 => ?_) (fun H5 => ?_)
  · skip
    refine px_bipush (v := (-2)) dX12_judge_28 (by decide) ?_
    refine px_iretI dX12_judge_30 rfl ?_
    first | exact ⟨by simp [f_judge, *], fr.rf⟩ | exact ⟨by simp [f_judge, *], frj f22⟩
  · skip
    refine px_iload_n dX12_judge_8 rfl rfl ?_
    refine px_iconst (v := 0) dX12_judge_9 (by decide) ?_
    refine px_sipush (v := 7775) dX12_judge_10 (by decide) ?_
    refine px_pure3 dX12_judge_13 lX12_109 (c_X12_in G _ _ _) (by decide) (Nat.le_of_ble_eq_true rfl) ?_
    refine px_if_eq (tgt := 28) dX12_judge_16 (by decide) (fun H16 => ?_) (fun H16 => ?_)
    · skip
      refine px_bipush (v := (-2)) dX12_judge_28 (by decide) ?_
      refine px_iretI dX12_judge_30 rfl ?_
      first | exact ⟨by simp [f_judge, *], fr.rf⟩ | exact ⟨by simp [f_judge, *], frj f22⟩
    · skip
      obtain ⟨k, hk, ek, tk⟩ := ct_ix hC hcn H5
      subst ek
      obtain ⟨j, hj, rfl⟩ := in_of (n := 7775) rfl (by omega) H16
      have tj : (nI j).toNatClampNeg = j := nI_clamp (by omega)
      refine px_aload_n dX12_judge_19 rfl rfl ?_
      refine px_iload_n dX12_judge_20 rfl rfl ?_
      refine px_iload_n dX12_judge_21 rfl rfl ?_
      refine mx_callI2 dX12_judge_22 lX12_259 rfl (c_X12_judged G m h0 S n k j hI (by omega) (by omega)) (by decide) (Nat.le_of_ble_eq_true rfl) (fun x22 S22 Q22 => ?_)
      obtain ⟨rfl, f22⟩ := Q22
      refine px_goto (tgt := 30) dX12_judge_25 (by decide) ?_
      refine px_iretI dX12_judge_30 rfl ?_
      first | exact ⟨by simp [f_judge, *], fr.rf⟩ | exact ⟨by simp [f_judge, *], frj f22⟩
theorem c_takes2 (G : Gt) (m : Nat) (h0 : Ht) (S T : MS) (c : Nat) (p : Int32) (h7 : T 7 = S 7) (h8 : T 8 = S 8) (h9 : T 9 = S 9) (hc : c < 8) : PC G (MPic G m h0) 1 Y12_takes [.ref m, .int (nI c), .int p] T 0 0 (ri (fun x S' => x = mTk S c p ∧ S' = T)) :=
  pc_ri (fun x S' hq => ⟨by rw [hq.1]; unfold mTk mPl; rw [h7, h8, h9], hq.2⟩) (c_X12_takes G m h0 T c p hc)
/-- the ounces, once k parts were taken (sg times) -/
def tkF (S : MS) (c p : Nat) (sg : Int32) : Nat → Nat → Int32
  | 0 => S 2
  | k + 1 => upd (tkF S c p sg k) (dg p k) (tkF S c p sg k (dg p k) - sg * mTk S c (nI k))
def bk (S : MS) (c k : Nat) : Int32 := if 0 < mTk S c (nI k) then mTk S c (nI k) - 1 else 0
def uF (S : MS) (c p : Nat) : Nat → Nat → Int32
  | 0 => S 2
  | k + 1 => upd (uF S c p k) (dg p k) (uF S c p k (dg p k) + bk S c k)
def uS (S : MS) (c : Nat) : Nat → Int32
  | 0 => 0
  | k + 1 => uS S c k + bk S c k
theorem fr30_up {S T : MS} {f : Nat → Int32} {i : Nat} {x : Int32} (h : fr [30] (setA S 2 f) T) : fr [30] (setA S 2 (upd f i x)) (up2 T 2 i x) := by
  intro k hk
  by_cases e : k = 2
  · subst e
    rw [up2_eq, setA_eq, h 2 hk, setA_eq]
  · rw [up2_ne e, setA_ne e, h k hk, setA_ne e]
set_option maxHeartbeats 4000000 in
set_option maxRecDepth 100000 in
theorem lp_take (G : Gt) (m : Nat) (h0 : Ht) (S : MS) (c p : Nat) (sg : Int32) (hc : c < 8) : ∀ (kk i : Nat) (T : MS), fr [30] (setA S 2 (tkF S c p sg i)) T → (∀ k, k < 5 → T 30 k = nI (dg p k)) → i ≤ 5 → 6 ≤ i + kk → PX G (MPic G m h0) 2 Y12_take 8 [some (.ref m), some (.int (nI c)), some (.int (nI p)), some (.int sg), some (.int (nI i))] [] T 0 0 (rv (fun S' => fr [30] (setA S 2 (tkF S c p sg 5)) S')) := by
  intro kk
  induction kk with
  | zero => intro i T h1 h2 h3 h4; omega
  | succ kk ih =>
    intro i T hf hd hi hk
    refine px_iload dX12_take_8 rfl ?_
    refine px_iconst (v := 5) dX12_take_10 (by decide) ?_
    refine px_icmp_ge (tgt := 44) dX12_take_11 (by decide) (fun H11 => ?_) (fun H11 => ?_)
    · skip
      have e5 : i = 5 := by have := ge_n (a := i) (b := 5) (by omega) (by omega) H11; omega
      subst e5
      refine px_return dX12_take_44 rfl ?_
      exact hf
    · skip
      have l5 : i < 5 := lt_n (a := i) (b := 5) (by omega) (by omega) H11
      have d6 := dg_lt p i
      have o2 : T 2 = tkF S c p sg i := (hf 2 (by decide)).trans setA_eq
      refine px_aload_n dX12_take_14 rfl rfl ?_
      refine mx_getA (k := 2) (j := 0) dX12_take_15 gX12_7 (fun _ => rfl) ?_
      refine px_aload_n dX12_take_18 rfl rfl ?_
      refine mx_getA (k := 30) (j := 17) dX12_take_19 gX12_67 (fun _ => rfl) ?_
      refine px_iload dX12_take_22 rfl ?_
      refine mx_iald (j := 17) (k := 30) _ dX12_take_24 rfl rfl (by omega) (by decide) ?_
      refine px_dup2 dX12_take_25 rfl rfl ?_
      refine mx_iald (j := 0) (k := 2) (dg p i) dX12_take_26 rfl (hd i l5) (by omega) (by decide) ?_
      refine px_iload_n dX12_take_27 rfl rfl ?_
      refine px_aload_n dX12_take_28 rfl rfl ?_
      refine px_iload_n dX12_take_29 rfl rfl ?_
      refine px_iload dX12_take_30 rfl ?_
      refine mx_callI2 dX12_take_32 lX12_124 rfl (c_takes2 G m h0 S T c (nI i) ((hf 7 (by decide)).trans (setA_ne (by decide))) ((hf 8 (by decide)).trans (setA_ne (by decide))) ((hf 9 (by decide)).trans (setA_ne (by decide))) hc) (by decide) (Nat.le_of_ble_eq_true rfl) (fun x32 S32 Q32 => ?_)
      obtain ⟨rfl, e32⟩ := Q32
      obtain rfl := e32.symm
      refine px_imul dX12_take_35 ?_
      refine px_isub dX12_take_36 ?_
      refine mx_iast (j := 0) (k := 2) (dg p i) dX12_take_37 rfl (hd i l5) (by omega) (by decide) ?_
      refine px_iinc_4 (v := 1) dX12_take_38 (by decide) (by decide) rfl ?_
      refine px_goto (tgt := 8) dX12_take_41 (by decide) ?_
      rw [nI_1]
      refine ih (i + 1) _ ?_ hd (by omega) (by omega)
      rw [o2]
      exact fr30_up hf
set_option maxHeartbeats 4000000 in
set_option maxRecDepth 100000 in
theorem c_X12_take (G : Gt) (m : Nat) (h0 : Ht) (S : MS) (c p : Nat) (sg : Int32) (hc : c < 8) (hp : p < 7776) : PC G (MPic G m h0) 2 Y12_take [.ref m, .int (nI c), .int (nI p), .int sg] S 0 0 (rv (fun S' => fr [30] (setA S 2 (tkF S c p sg 5)) S')) := by
  refine pc_of (ls := [some (.ref m), some (.int (nI c)), some (.int (nI p)), some (.int sg), none]) (by decide +kernel) rfl (Nat.le_of_ble_eq_true rfl) ?_
  refine px_aload_n dX12_take_0 rfl rfl ?_
  refine px_iload_n dX12_take_1 rfl rfl ?_
  refine mx_callV1 dX12_take_2 lX12_256 rfl (c_X12_findDigits G m h0 S p hp) (by decide) (Nat.le_of_ble_eq_true rfl) (fun S2 Q2 => ?_)
  obtain ⟨f2, d2⟩ := Q2
  refine px_iconst (v := 0) dX12_take_5 (by decide) ?_
  refine px_istore_4 dX12_take_6 (by decide) rfl ?_
  exact lp_take G m h0 S c p sg hc 6 0 _ (by rw [tkF, setA_id]; exact f2) d2 (by omega) (by omega)
def f_knit (S : MS) (c p day : Int32) : Int32 × MS := if mCt S c = 0 ∨ mIn p 0 7775 = 0 ∨ mIn day (mLast S (cN S)) 99 = 0 then (-2, S) else if ¬ S 11 c.toNatClampNeg = 0 then (-3, S) else if jd S (hN S) c.toNatClampNeg p.toNatClampNeg = -1 then (-1, up2 (up2 (up2 (setA S 2 (tkF S c.toNatClampNeg p.toNatClampNeg 1 5)) 11 c.toNatClampNeg 1) 12 c.toNatClampNeg p) 13 c.toNatClampNeg day) else (jd S (hN S) c.toNatClampNeg p.toNatClampNeg, S)
def f_undo (S : MS) (c : Int32) : Int32 × MS := if mCt S c = 0 then (-2, S) else if S 11 c.toNatClampNeg = 0 then (-3, S) else (uS S c.toNatClampNeg 5, up2 (setA S 2 (uF S c.toNatClampNeg (S 12 c.toNatClampNeg).toNatClampNeg 5)) 11 c.toNatClampNeg 0)
theorem tkF_c {S T : MS} {c p : Nat} {sg : Int32} (hf : fr scr S T) : ∀ k, tkF T c p sg k = tkF S c p sg k
  | 0 => hf 2 (by decide)
  | k + 1 => by rw [tkF, tkF, tkF_c hf k, mTk_c hf]
theorem fr_up {X : List Nat} {S T : MS} {k i : Nat} {x : Int32} (h : fr X S T) : fr X (up2 S k i x) (up2 T k i x) := by
  intro q hq
  by_cases e : q = k
  · subst e; rw [up2_eq, up2_eq, h q hq]
  · rw [up2_ne e, up2_ne e, h q hq]
theorem fr_setA {X : List Nat} {S T : MS} {k : Nat} {f : Nat → Int32} (h : fr X S T) : fr X (setA S k f) (setA T k f) := by
  intro q hq
  by_cases e : q = k
  · subst e; rw [setA_eq, setA_eq]
  · rw [setA_ne e, setA_ne e, h q hq]
set_option maxHeartbeats 4000000 in
set_option maxRecDepth 100000 in
theorem c_X12_knit (G : Gt) (m : Nat) (h0 : Ht) (S : MS) (c p day : Int32) (n : Nat) (hI : HI S n) (cn : Nat) (hC : S 6 0 = nI cn) (hcn : cn ≤ 8) : PC G (MPic G m h0) 6 Y12_knit [.ref m, .int c, .int p, .int day] S 0 0 (ri (fun x S' => x = (f_knit S c p day).1 ∧ fr scr (f_knit S c p day).2 S')) := by
  have eN := hN_eq hI.1 (by have := hI.2.1; omega)
  have eC := cN_eq hC (by omega)
  refine pc_of (ls := [some (.ref m), some (.int c), some (.int p), some (.int day), none]) (by decide +kernel) rfl (Nat.le_of_ble_eq_true rfl) ?_
  refine px_aload_n dX12_knit_0 rfl rfl ?_
  refine px_iload_n dX12_knit_1 rfl rfl ?_
  refine mx_callI1 dX12_knit_2 lX12_127 rfl (c_X12_isCoat G m h0 S _) (by decide) (Nat.le_of_ble_eq_true rfl) (fun x2 S2 Q2 => ?_)
  obtain ⟨rfl, e2⟩ := Q2
  obtain rfl := e2.symm
  refine px_if_eq (tgt := 32) dX12_knit_5 (by decide) (fun H5 => ?_) (fun H5 => ?_)
  · skip
    refine px_bipush (v := (-2)) dX12_knit_32 (by decide) ?_
    refine px_iretI dX12_knit_34 rfl ?_
    exact ⟨by simp [f_knit, *], fr_eq (by simp [f_knit, *])⟩
  · skip
    refine px_iload_n dX12_knit_8 rfl rfl ?_
    refine px_iconst (v := 0) dX12_knit_9 (by decide) ?_
    refine px_sipush (v := 7775) dX12_knit_10 (by decide) ?_
    refine px_pure3 dX12_knit_13 lX12_109 (c_X12_in G _ _ _) (by decide) (Nat.le_of_ble_eq_true rfl) ?_
    refine px_if_eq (tgt := 32) dX12_knit_16 (by decide) (fun H16 => ?_) (fun H16 => ?_)
    · skip
      refine px_bipush (v := (-2)) dX12_knit_32 (by decide) ?_
      refine px_iretI dX12_knit_34 rfl ?_
      exact ⟨by simp [f_knit, *], fr_eq (by simp [f_knit, *])⟩
    · skip
      refine px_iload_n dX12_knit_19 rfl rfl ?_
      refine px_aload_n dX12_knit_20 rfl rfl ?_
      refine mx_callI0 dX12_knit_21 lX12_281 rfl (c_X12_lastDay G m h0 S cn hC hcn) (by decide) (Nat.le_of_ble_eq_true rfl) (fun x21 S21 Q21 => ?_)
      obtain ⟨rfl, e21⟩ := Q21
      obtain rfl := e21.symm
      refine px_bipush (v := 99) dX12_knit_24 (by decide) ?_
      refine px_pure3 dX12_knit_26 lX12_109 (c_X12_in G _ _ _) (by decide) (Nat.le_of_ble_eq_true rfl) ?_
      refine px_if_ne (tgt := 35) dX12_knit_29 (by decide) (fun H29 => ?_) (fun H29 => ?_)
      · skip
        obtain ⟨k, hk, ek, tk⟩ := ct_ix hC hcn H5
        subst ek
        obtain ⟨j, hj, rfl⟩ := in_of (n := 7775) rfl (by omega) H16
        have tj : (nI j).toNatClampNeg = j := nI_clamp (by omega)
        refine px_aload_n dX12_knit_35 rfl rfl ?_
        refine mx_getA (k := 11) (j := 8) dX12_knit_36 gX12_34 (fun _ => rfl) ?_
        refine px_iload_n dX12_knit_39 rfl rfl ?_
        refine mx_zald (j := 8) (k := 11) _ dX12_knit_40 rfl rfl (by omega) (by decide) ?_
        refine px_if_eq (tgt := 47) dX12_knit_41 (by decide) (fun H41 => ?_) (fun H41 => ?_)
        · skip
          refine px_aload_n dX12_knit_47 rfl rfl ?_
          refine px_iload_n dX12_knit_48 rfl rfl ?_
          refine px_iload_n dX12_knit_49 rfl rfl ?_
          refine mx_callI2 dX12_knit_50 lX12_259 rfl (c_X12_judged G m h0 S n k j hI (by omega) (by omega)) (by decide) (Nat.le_of_ble_eq_true rfl) (fun x50 S50 Q50 => ?_)
          obtain ⟨e50, f50⟩ := Q50
          subst e50
          refine px_istore_4 dX12_knit_53 (by decide) rfl ?_
          refine px_iload dX12_knit_55 rfl ?_
          refine px_iconst (v := (-1)) dX12_knit_57 (by decide) ?_
          refine px_icmp_eq (tgt := 64) dX12_knit_58 (by decide) (fun H58 => ?_) (fun H58 => ?_)
          · skip
            refine px_aload_n dX12_knit_64 rfl rfl ?_
            refine px_iload_n dX12_knit_65 rfl rfl ?_
            refine px_iload_n dX12_knit_66 rfl rfl ?_
            refine px_iconst (v := 1) dX12_knit_67 (by decide) ?_
            refine mx_callV3 dX12_knit_68 lX12_284 rfl (c_X12_take G m h0 S50 k j 1 (by omega) (by omega)) (by decide) (Nat.le_of_ble_eq_true rfl) (fun S68 Q68 => ?_)
            have g68 : fr scr (setA S 2 (tkF S k j 1 5)) S68 := by
              rw [tkF_c (frj f50)] at Q68
              exact (fr_setA (frj f50)).tr (Q68.mono (by decide))
            refine px_aload_n dX12_knit_71 rfl rfl ?_
            refine mx_getA (k := 11) (j := 8) dX12_knit_72 gX12_34 (fun _ => rfl) ?_
            refine px_iload_n dX12_knit_75 rfl rfl ?_
            refine px_iconst (v := 1) dX12_knit_76 (by decide) ?_
            refine mx_zast (j := 8) (k := 11) _ dX12_knit_77 rfl rfl (by omega) (by decide) ?_
            refine px_aload_n dX12_knit_78 rfl rfl ?_
            refine mx_getA (k := 12) (j := 9) dX12_knit_79 gX12_38 (fun _ => rfl) ?_
            refine px_iload_n dX12_knit_82 rfl rfl ?_
            refine px_iload_n dX12_knit_83 rfl rfl ?_
            refine mx_iast (j := 9) (k := 12) _ dX12_knit_84 rfl rfl (by omega) (by decide) ?_
            refine px_aload_n dX12_knit_85 rfl rfl ?_
            refine mx_getA (k := 13) (j := 10) dX12_knit_86 gX12_41 (fun _ => rfl) ?_
            refine px_iload_n dX12_knit_89 rfl rfl ?_
            refine px_iload_n dX12_knit_90 rfl rfl ?_
            refine mx_iast (j := 10) (k := 13) _ dX12_knit_91 rfl rfl (by omega) (by decide) ?_
            refine px_iconst (v := (-1)) dX12_knit_92 (by decide) ?_
            refine px_iretI dX12_knit_93 rfl ?_
            refine ⟨by simp [f_knit, *], ?_⟩
            have e9 : (f_knit S (nI k) (nI j) day).2 = up2 (up2 (up2 (setA S 2 (tkF S k j 1 5)) 11 k 1) 12 k (nI j)) 13 k day := by simp [f_knit, *]
            rw [e9]
            exact fr_up (fr_up (fr_up g68))
          · skip
            refine px_iload dX12_knit_61 rfl ?_
            refine px_iretI dX12_knit_63 rfl ?_
            exact ⟨by simp [f_knit, *], by simp [f_knit, *]; exact frj f50⟩
        · skip
          refine px_bipush (v := (-3)) dX12_knit_44 (by decide) ?_
          refine px_iretI dX12_knit_46 rfl ?_
          exact ⟨by simp [f_knit, *], fr_eq (by simp [f_knit, *])⟩
      · skip
        refine px_bipush (v := (-2)) dX12_knit_32 (by decide) ?_
        refine px_iretI dX12_knit_34 rfl ?_
        exact ⟨by simp [f_knit, *], fr_eq (by simp [f_knit, *])⟩
theorem frU_up {S T : MS} {f : Nat → Int32} {i c : Nat} {x y : Int32} (h : fr [30] (up2 (setA S 2 f) 11 c y) T) : fr [30] (up2 (setA S 2 (upd f i x)) 11 c y) (up2 T 2 i x) := by
  intro k hk
  by_cases e : k = 2
  · subst e
    rw [up2_eq, up2_ne (by decide), setA_eq, h 2 hk, up2_ne (by decide), setA_eq]
  · rw [up2_ne e, h k hk]
    by_cases e2 : k = 11
    · subst e2; rw [up2_eq, up2_eq, setA_ne e, setA_ne e]
    · rw [up2_ne e2, up2_ne e2, setA_ne e, setA_ne e]
set_option maxHeartbeats 4000000 in
set_option maxRecDepth 100000 in
theorem lp_undo (G : Gt) (m : Nat) (h0 : Ht) (S : MS) (c p : Nat) (hc : c < 8) : ∀ (kk i : Nat) (T : MS), fr [30] (up2 (setA S 2 (uF S c p i)) 11 c 0) T → (∀ k, k < 5 → T 30 k = nI (dg p k)) → i ≤ 5 → 6 ≤ i + kk → PX G (MPic G m h0) 3 Y12_undo 44 [some (.ref m), some (.int (nI c)), some (.int (uS S c i)), some (.int (nI i)), none] [] T 0 0 (ri (fun x S' => x = uS S c 5 ∧ fr [30] (up2 (setA S 2 (uF S c p 5)) 11 c 0) S')) := by
  intro kk
  induction kk with
  | zero => intro i T h1 h2 h3 h4; omega
  | succ kk ih =>
    intro i T hf hd hi hk
    refine px_iload_n dX12_undo_44 rfl rfl ?_
    refine px_iconst (v := 5) dX12_undo_45 (by decide) ?_
    refine px_icmp_ge (tgt := 99) dX12_undo_46 (by decide) (fun H46 => ?_) (fun H46 => ?_)
    · skip
      have e5 : i = 5 := by have := ge_n (a := i) (b := 5) (by omega) (by omega) H46; omega
      subst e5
      refine px_iload_n dX12_undo_99 rfl rfl ?_
      refine px_iretI dX12_undo_100 rfl ?_
      exact ⟨rfl, hf⟩
    · skip
      have l5 : i < 5 := lt_n (a := i) (b := 5) (by omega) (by omega) H46
      have d6 := dg_lt p i
      have o2 : T 2 = uF S c p i := (hf 2 (by decide)).trans ((up2_ne (by decide)).trans setA_eq)
      refine px_aload_n dX12_undo_49 rfl rfl ?_
      refine px_iload_n dX12_undo_50 rfl rfl ?_
      refine px_iload_n dX12_undo_51 rfl rfl ?_
      refine mx_callI2 dX12_undo_52 lX12_124 rfl (c_takes2 G m h0 S T c (nI i) ((hf 7 (by decide)).trans ((up2_ne (by decide)).trans (setA_ne (by decide)))) ((hf 8 (by decide)).trans ((up2_ne (by decide)).trans (setA_ne (by decide)))) ((hf 9 (by decide)).trans ((up2_ne (by decide)).trans (setA_ne (by decide)))) hc) (by decide) (Nat.le_of_ble_eq_true rfl) (fun x52 S52 Q52 => ?_)
      obtain ⟨rfl, e52⟩ := Q52
      obtain rfl := e52.symm
      refine px_if_le (tgt := 69) dX12_undo_55 (by decide) (fun H55 => ?_) (fun H55 => ?_)
      · skip
        have eb : bk S c i = 0 := by simp [bk, H55]
        refine px_iconst (v := 0) dX12_undo_69 (by decide) ?_
        refine px_top eb.symm ?_
        refine px_istore_4 dX12_undo_70 (by decide) rfl ?_
        refine px_aload_n dX12_undo_72 rfl rfl ?_
        refine mx_getA (k := 2) (j := 0) dX12_undo_73 gX12_7 (fun _ => rfl) ?_
        refine px_aload_n dX12_undo_76 rfl rfl ?_
        refine mx_getA (k := 30) (j := 17) dX12_undo_77 gX12_67 (fun _ => rfl) ?_
        refine px_iload_n dX12_undo_80 rfl rfl ?_
        refine mx_iald (j := 17) (k := 30) _ dX12_undo_81 rfl rfl (by omega) (by decide) ?_
        refine px_dup2 dX12_undo_82 rfl rfl ?_
        refine mx_iald (j := 0) (k := 2) (dg p i) dX12_undo_83 rfl (hd i l5) (by omega) (by decide) ?_
        refine px_iload dX12_undo_84 rfl ?_
        refine px_iadd dX12_undo_86 ?_
        refine mx_iast (j := 0) (k := 2) (dg p i) dX12_undo_87 rfl (hd i l5) (by omega) (by decide) ?_
        refine px_iload_n dX12_undo_88 rfl rfl ?_
        refine px_iload dX12_undo_89 rfl ?_
        refine px_iadd dX12_undo_91 ?_
        refine px_istore_n2 dX12_undo_92 (by decide) rfl ?_
        refine px_iinc_3 (v := 1) dX12_undo_93 (by decide) (by decide) rfl ?_
        refine px_goto (tgt := 44) dX12_undo_96 (by decide) ?_
        refine px_lw (ls' := [some (.ref m), some (.int (nI c)), some (.int (uS S c (i + 1))), some (.int (nI (i + 1))), none]) (by simp [LW, uS, nI_1]) (ih (i + 1) _ ?_ hd (by omega) (by omega))
        rw [o2]
        exact frU_up hf
      · skip
        have eb : bk S c i = mTk S c (nI i) - 1 := by simp [bk, H55]
        refine px_aload_n dX12_undo_58 rfl rfl ?_
        refine px_iload_n dX12_undo_59 rfl rfl ?_
        refine px_iload_n dX12_undo_60 rfl rfl ?_
        refine mx_callI2 dX12_undo_61 lX12_124 rfl (c_takes2 G m h0 S T c (nI i) ((hf 7 (by decide)).trans ((up2_ne (by decide)).trans (setA_ne (by decide)))) ((hf 8 (by decide)).trans ((up2_ne (by decide)).trans (setA_ne (by decide)))) ((hf 9 (by decide)).trans ((up2_ne (by decide)).trans (setA_ne (by decide)))) hc) (by decide) (Nat.le_of_ble_eq_true rfl) (fun x61 S61 Q61 => ?_)
        obtain ⟨rfl, e61⟩ := Q61
        obtain rfl := e61.symm
        refine px_iconst (v := 1) dX12_undo_64 (by decide) ?_
        refine px_isub dX12_undo_65 ?_
        refine px_goto (tgt := 70) dX12_undo_66 (by decide) ?_
        refine px_top eb.symm ?_
        refine px_istore_4 dX12_undo_70 (by decide) rfl ?_
        refine px_aload_n dX12_undo_72 rfl rfl ?_
        refine mx_getA (k := 2) (j := 0) dX12_undo_73 gX12_7 (fun _ => rfl) ?_
        refine px_aload_n dX12_undo_76 rfl rfl ?_
        refine mx_getA (k := 30) (j := 17) dX12_undo_77 gX12_67 (fun _ => rfl) ?_
        refine px_iload_n dX12_undo_80 rfl rfl ?_
        refine mx_iald (j := 17) (k := 30) _ dX12_undo_81 rfl rfl (by omega) (by decide) ?_
        refine px_dup2 dX12_undo_82 rfl rfl ?_
        refine mx_iald (j := 0) (k := 2) (dg p i) dX12_undo_83 rfl (hd i l5) (by omega) (by decide) ?_
        refine px_iload dX12_undo_84 rfl ?_
        refine px_iadd dX12_undo_86 ?_
        refine mx_iast (j := 0) (k := 2) (dg p i) dX12_undo_87 rfl (hd i l5) (by omega) (by decide) ?_
        refine px_iload_n dX12_undo_88 rfl rfl ?_
        refine px_iload dX12_undo_89 rfl ?_
        refine px_iadd dX12_undo_91 ?_
        refine px_istore_n2 dX12_undo_92 (by decide) rfl ?_
        refine px_iinc_3 (v := 1) dX12_undo_93 (by decide) (by decide) rfl ?_
        refine px_goto (tgt := 44) dX12_undo_96 (by decide) ?_
        refine px_lw (ls' := [some (.ref m), some (.int (nI c)), some (.int (uS S c (i + 1))), some (.int (nI (i + 1))), none]) (by simp [LW, uS, nI_1]) (ih (i + 1) _ ?_ hd (by omega) (by omega))
        rw [o2]
        exact frU_up hf
set_option maxHeartbeats 4000000 in
set_option maxRecDepth 100000 in
theorem c_X12_undo (G : Gt) (m : Nat) (h0 : Ht) (S : MS) (c : Int32) (cn : Nat) (hC : S 6 0 = nI cn) (hcn : cn ≤ 8) (hB : ∀ i, i < 8 → ∃ p, p < 7776 ∧ S 12 i = nI p) : PC G (MPic G m h0) 3 Y12_undo [.ref m, .int c] S 0 0 (ri (fun x S' => x = (f_undo S c).1 ∧ fr scr (f_undo S c).2 S')) := by
  refine pc_of (ls := [some (.ref m), some (.int c), none, none, none]) (by decide +kernel) rfl (Nat.le_of_ble_eq_true rfl) ?_
  refine px_aload_n dX12_undo_0 rfl rfl ?_
  refine px_iload_n dX12_undo_1 rfl rfl ?_
  refine mx_callI1 dX12_undo_2 lX12_127 rfl (c_X12_isCoat G m h0 S _) (by decide) (Nat.le_of_ble_eq_true rfl) (fun x2 S2 Q2 => ?_)
  obtain ⟨rfl, e2⟩ := Q2
  obtain rfl := e2.symm
  refine px_if_ne (tgt := 11) dX12_undo_5 (by decide) (fun H5 => ?_) (fun H5 => ?_)
  · skip
    obtain ⟨k, hk, ek, tk⟩ := ct_ix hC hcn H5
    subst ek
    obtain ⟨p, hp, ep⟩ := hB k (by omega)
    have tp : (nI p).toNatClampNeg = p := nI_clamp (by omega)
    refine px_aload_n dX12_undo_11 rfl rfl ?_
    refine mx_getA (k := 11) (j := 8) dX12_undo_12 gX12_34 (fun _ => rfl) ?_
    refine px_iload_n dX12_undo_15 rfl rfl ?_
    refine mx_zald (j := 8) (k := 11) _ dX12_undo_16 rfl rfl (by omega) (by decide) ?_
    refine px_if_ne (tgt := 23) dX12_undo_17 (by decide) (fun H17 => ?_) (fun H17 => ?_)
    · skip
      refine px_aload_n dX12_undo_23 rfl rfl ?_
      refine mx_getA (k := 11) (j := 8) dX12_undo_24 gX12_34 (fun _ => rfl) ?_
      refine px_iload_n dX12_undo_27 rfl rfl ?_
      refine px_iconst (v := 0) dX12_undo_28 (by decide) ?_
      refine mx_zast (j := 8) (k := 11) _ dX12_undo_29 rfl rfl (by omega) (by decide) ?_
      refine px_aload_n dX12_undo_30 rfl rfl ?_
      refine px_aload_n dX12_undo_31 rfl rfl ?_
      refine mx_getA (k := 12) (j := 9) dX12_undo_32 gX12_38 (fun _ => rfl) ?_
      refine px_iload_n dX12_undo_35 rfl rfl ?_
      refine mx_iald (j := 9) (k := 12) _ dX12_undo_36 rfl rfl (by omega) (by decide) ?_
      refine px_st (st' := [.int (nI p), .ref m]) (by simp [up2_ne, ep]) ?_
      refine mx_callV1 dX12_undo_37 lX12_256 rfl (c_X12_findDigits G m h0 _ p hp) (by decide) (Nat.le_of_ble_eq_true rfl) (fun S37 Q37 => ?_)
      obtain ⟨f37, d37⟩ := Q37
      refine px_iconst (v := 0) dX12_undo_40 (by decide) ?_
      refine px_istore_n2 dX12_undo_41 (by decide) rfl ?_
      refine px_iconst (v := 0) dX12_undo_42 (by decide) ?_
      refine px_istore_n3 dX12_undo_43 (by decide) rfl ?_
      have hR : (f_undo S (nI k)).1 = uS S k 5 ∧ (f_undo S (nI k)).2 = up2 (setA S 2 (uF S k p 5)) 11 k 0 := by simp [f_undo, tk, ep, tp, H5, H17]
      rw [hR.1, hR.2]
      refine px_post (fun r S' hq => ?_) (px_lw (ls' := [some (.ref m), some (.int (nI k)), some (.int (uS S k 0)), some (.int (nI 0)), none]) (by simp [LW, uS, nI_0]) (lp_undo G m h0 S k p (by omega) 6 0 S37 ?_ d37 (by omega) (by omega)))
      · obtain ⟨x, h1, h2, h3⟩ := hq
        exact ⟨x, h1, h2, h3.mono (by decide)⟩
      · rw [uF, setA_id]
        exact f37
    · skip
      refine px_bipush (v := (-3)) dX12_undo_20 (by decide) ?_
      refine px_iretI dX12_undo_22 rfl ?_
      exact ⟨by simp [f_undo, *], fr_eq (by simp [f_undo, *])⟩
  · skip
    refine px_bipush (v := (-2)) dX12_undo_8 (by decide) ?_
    refine px_iretI dX12_undo_10 rfl ?_
    exact ⟨by simp [f_undo, *], fr_eq (by simp [f_undo, *])⟩
