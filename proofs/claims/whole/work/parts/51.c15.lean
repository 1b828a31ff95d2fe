/-! the sheets of both sides -/
def R4 : List Nat := [110, 111, 112, 113]
def shT (f g : MS) : MS := setA g 50 (f 50)
theorem shT_b {f g : MS} : fr [50] g (shT f g) := fr_set List.mem_cons_self
theorem shT_a {f g : MS} (h : ∀ k, k ≠ 50 → k ∉ R4 → g k = f k) : fr R4 f (shT f g) := by
  intro k hk
  by_cases e : k = 50
  · subst e; exact setA_eq
  · exact (setA_ne e).trans (h k e hk)
theorem R4_ne {k j : Nat} (hk : k ∉ R4) (hj : j ≤ 3) : k ≠ 110 + j := by
  intro e
  apply hk
  subst e
  rcases (by omega : j = 0 ∨ j = 1 ∨ j = 2 ∨ j = 3) with rfl | rfl | rfl | rfl <;> decide
theorem shT_id {S : MS} : shT S S = S := setA_id
def SHR (S f g : MS) : Prop := fr R4 f (shT f g) ∧ fr [50] g (shT f g) ∧ SHI (shT f g)
theorem SHR.id {S : MS} (h : SHI S) : SHR S S S := by
  unfold SHR
  rw [shT_id]
  exact ⟨fr.rf, fr.rf, h⟩
theorem shI_c {S T : MS} (h : SHI S) (h48 : T 48 = S 48) (h49 : T 49 = S 49) (h50 : T 50 = S 50) (h110 : ∀ s, s < 4 → T (110 + s) = S (110 + s)) : SHI T := by
  intro s hs
  rw [h48, h49, h50, h110 s hs]
  exact h s hs
theorem srt_ok {srt : Int32} (h : ¬ mIn srt (-1) 2 = 0) (hm : ¬ srt = -1) : ¬ srt < 0 := by
  obtain ⟨h1, h2⟩ := mIn_1.mp h
  intro q
  apply hm
  rw [i_lt] at h1 q
  rw [show (-1 : Int32).toInt = -1 from rfl] at h1
  rw [show (0 : Int32).toInt = 0 from rfl] at q
  rw [i_eq, show (-1 : Int32).toInt = -1 from rfl]
  omega
theorem sheet_rel {S : MS} {s srt n : Int32} (h : SHI S) : SHR S (f_sheet S s srt n).2 (g_sheet S s srt n) := by
  unfold f_sheet g_sheet
  by_cases c1 : mIn s 0 3 = 0 ∨ mIn srt (-1) 2 = 0
  · rw [if_pos c1, if_pos c1]; exact .id h
  rw [if_neg c1, if_neg c1]
  obtain ⟨j, hj, ej, tj⟩ := in_ix (n := 3) (by decide) (fun q => c1 (Or.inl q) : ¬ mIn s 0 3 = 0)
  rw [tj]
  by_cases c2 : srt = -1
  · rw [if_pos c2, if_pos c2]
    have e : shT (up2 S 48 j (-1)) (up2 S 48 j (-1)) = up2 S 48 j (-1) := shT_id
    unfold SHR
    rw [show ((1 : Int32), up2 S 48 j (-1)).2 = up2 S 48 j (-1) from rfl, e]
    refine ⟨fr.rf, fr.rf, ?_⟩
    intro s' hs'
    by_cases es : s' = j
    · subst es
      refine ⟨Or.inl (by rw [up2_eq, pk_us]), ?_⟩
      obtain ⟨w, hw, ew, -⟩ := (h s' hs').2
      exact ⟨w, hw, by rw [up2_ne (by decide)]; exact ew, fun q => absurd (by rw [up2_eq, pk_us]) q⟩
    · rw [up2_eq, pk_un es, up2_ne (show 49 ≠ 48 by decide), up2_ne (show 50 ≠ 48 by decide), up2_ne (by omega)]
      exact h s' hs'
  rw [if_neg c2, if_neg c2]
  by_cases c3 : 40 < n
  · rw [if_pos c3, if_pos c3]; exact .id h
  rw [if_neg c3, if_neg c3]
  by_cases c4 : n < 0
  · rw [if_pos c4, if_pos c4]; exact .id h
  rw [if_neg c4, if_neg c4]
  have c4' := i0_ge.mp c4
  have c3' : n.toInt ≤ 40 := by
    rw [i_lt, show (40 : Int32).toInt = 40 from rfl] at c3
    omega
  obtain ⟨q, eq, tq⟩ : ∃ q : Nat, n = nI q ∧ n.toInt = q := ⟨n.toInt.toNat, by rw [i_eq, nI_toInt' (by omega)]; omega, by omega⟩
  have hq : q ≤ 40 := by omega
  have tq2 : n.toNatClampNeg = q := by rw [eq, nI_clamp (by omega)]
  rw [tq2]
  have hs : ¬ srt < 0 := srt_ok (fun z => c1 (Or.inr z)) c2
  refine ⟨shT_a ?_, shT_b, ?_⟩
  · intro k h50 hk
    show setA _ _ _ k = setA _ 50 _ k
    rw [setA_ne (R4_ne hk hj), setA_ne h50]
  · intro s' hs'
    have e48 : shT (setA (up2 (up2 S 48 j srt) 49 j n) 50 (fb_put (S 50) (fun _ => 0) (40 * j) q)) (setA (up2 (up2 S 48 j srt) 49 j n) (110 + j) (fa_fill (fun _ => 0) ((up2 (up2 S 48 j srt) 49 j n) (110 + j)) 40)) 48 = upd (S 48) j srt := by
      unfold shT
      rw [setA_ne (by decide), setA_ne (by omega), up2_ne (by decide), up2_eq]
    have e49 : shT (setA (up2 (up2 S 48 j srt) 49 j n) 50 (fb_put (S 50) (fun _ => 0) (40 * j) q)) (setA (up2 (up2 S 48 j srt) 49 j n) (110 + j) (fa_fill (fun _ => 0) ((up2 (up2 S 48 j srt) 49 j n) (110 + j)) 40)) 49 = upd (S 49) j n := by
      unfold shT
      rw [setA_ne (by decide), setA_ne (by omega), up2_eq, up2_ne (by decide)]
    have e50 : shT (setA (up2 (up2 S 48 j srt) 49 j n) 50 (fb_put (S 50) (fun _ => 0) (40 * j) q)) (setA (up2 (up2 S 48 j srt) 49 j n) (110 + j) (fa_fill (fun _ => 0) ((up2 (up2 S 48 j srt) 49 j n) (110 + j)) 40)) 50 = fb_put (S 50) (fun _ => 0) (40 * j) q := by
      unfold shT
      rw [setA_eq, setA_eq]
    show (shT _ _ 48 s' = -1 ∨ ¬ shT _ _ 48 s' < 0) ∧ _
    rw [e48, e49, e50]
    by_cases es : s' = j
    · subst es
      rw [pk_us, pk_us]
      refine ⟨Or.inr hs, q, hq, eq, fun _ i hi => ?_⟩
      show shT _ _ (110 + s') i = _
      unfold shT
      rw [setA_ne (by omega), setA_eq, fa_fill_in (by omega), fb_put_in (by omega) (by omega)]
    · rw [pk_un es, pk_un es]
      obtain ⟨h1, w, hw, ew, h2⟩ := h s' hs'
      refine ⟨h1, w, hw, ew, fun q1 i hi => ?_⟩
      show shT _ _ (110 + s') i = _
      unfold shT
      rw [setA_ne (by omega), setA_ne (by omega), up2_ne (by omega), up2_ne (by omega), fb_put_out (by omega)]
      exact h2 q1 i hi
theorem cell_rel {S : MS} {s i v : Int32} (h : SHI S) : SHR S (f_cell S s i v).2 (g_cell S s i v) := by
  unfold f_cell g_cell
  by_cases c1 : mIn s 0 3 = 0
  · rw [if_pos c1, if_pos c1]; exact .id h
  rw [if_neg c1, if_neg c1]
  obtain ⟨j, hj, ej, tj⟩ := in_ix (n := 3) (by decide) c1
  rw [tj]
  by_cases c2 : S 48 j < 0
  · rw [if_pos c2, if_pos c2]; exact .id h
  rw [if_neg c2, if_neg c2]
  by_cases c3 : mIn i 0 (S 49 j - 1) = 0
  · rw [if_pos c3, if_pos c3]; exact .id h
  rw [if_neg c3, if_neg c3]
  obtain ⟨h1, w, hw, ew, hE⟩ := h j (by omega)
  have hw1 : 1 ≤ w := by
    rcases Nat.eq_zero_or_pos w with q | q
    · subst q; rw [ew] at c3; obtain ⟨q1, q2⟩ := mIn_1.mp c3
      rw [i_lt] at q1 q2
      rw [show (0 : Int32).toInt = 0 from rfl] at q1
      rw [show (nI 0 - 1).toInt = -1 from rfl] at q2
      omega
    · exact q
  obtain ⟨u, hu, eu, tu⟩ := in_ix (n := w - 1) (by omega) (by rw [ew, nIs hw1] at c3; exact c3)
  rw [tu]
  have hm : ¬ S 48 j = -1 := fun q => c2 (by rw [q]; decide)
  show SHR S (up2 S 50 (40 * j + u) (mCut (S 48 j) v)) (up2 S (110 + j) u (mCut (S 48 j) v))
  generalize mCut (S 48 j) v = x
  refine ⟨shT_a ?_, shT_b, ?_⟩
  · intro k h50 hk
    rw [up2_ne (R4_ne hk hj), up2_ne h50]
  · intro s' hs'
    have e48 : shT (up2 S 50 (40 * j + u) x) (up2 S (110 + j) u x) 48 = S 48 := by
      unfold shT
      rw [setA_ne (by decide), up2_ne (by omega)]
    have e49 : shT (up2 S 50 (40 * j + u) x) (up2 S (110 + j) u x) 49 = S 49 := by
      unfold shT
      rw [setA_ne (by decide), up2_ne (by omega)]
    have e50 : shT (up2 S 50 (40 * j + u) x) (up2 S (110 + j) u x) 50 = upd (S 50) (40 * j + u) x := by
      unfold shT
      rw [setA_eq, up2_eq]
    rw [e48, e49, e50]
    obtain ⟨h1', w', hw', ew', hE'⟩ := h s' hs'
    refine ⟨h1', w', hw', ew', fun q1 i hi => ?_⟩
    show setA _ 50 _ (110 + s') i = _
    rw [setA_ne (by omega)]
    by_cases es : s' = j
    · subst es
      rw [up2_eq]
      by_cases ei : i = u
      · subst ei; rw [pk_us, pk_us]
      · rw [pk_un ei, pk_un (by omega)]; exact hE' q1 i hi
    · rw [up2_ne (by omega), pk_un (by omega)]; exact hE' q1 i hi
theorem copy_rel {S : MS} {s i oo jj n : Int32} (h : SHI S) : SHR S (f_copy S s i oo jj n).2 (g_copy S s i oo jj n) := by
  unfold f_copy g_copy
  by_cases c1 : mIn s 0 3 = 0 ∨ mIn oo 0 3 = 0
  · rw [if_pos c1, if_pos c1]; exact .id h
  rw [if_neg c1, if_neg c1]
  obtain ⟨a, ha, ea, ta⟩ := in_ix (n := 3) (by decide) (fun q => c1 (Or.inl q) : ¬ mIn s 0 3 = 0)
  obtain ⟨b, hb, eb, tb_⟩ := in_ix (n := 3) (by decide) (fun q => c1 (Or.inr q) : ¬ mIn oo 0 3 = 0)
  rw [ta, tb_]
  by_cases c2 : S 48 a < 0 ∨ S 48 b < 0
  · rw [if_pos c2, if_pos c2]; exact .id h
  rw [if_neg c2, if_neg c2]
  by_cases c3 : ¬ S 48 a = S 48 b
  · rw [if_pos c3, if_pos c3]; exact .id h
  rw [if_neg c3, if_neg c3]
  by_cases c4 : n < 0 ∨ i < 0 ∨ jj < 0 ∨ (S 49 a).toInt < i.toInt + n.toInt ∨ (S 49 b).toInt < jj.toInt + n.toInt
  · rw [if_pos c4, if_pos c4]; exact .id h
  rw [if_neg c4, if_neg c4]
  obtain ⟨-, wa, hwa, ewa, hEa⟩ := h a (by omega)
  obtain ⟨-, wb, hwb, ewb, hEb⟩ := h b (by omega)
  have p2 := i0_ge.mp (fun q => c4 (Or.inl q))
  have p1 := i0_ge.mp (fun q => c4 (Or.inr (Or.inl q)))
  have p3 := i0_ge.mp (fun q => c4 (Or.inr (Or.inr (Or.inl q))))
  have n4 : ¬ (S 49 a).toInt < i.toInt + n.toInt := fun q => c4 (Or.inr (Or.inr (Or.inr (Or.inl q))))
  have n5 : ¬ (S 49 b).toInt < jj.toInt + n.toInt := fun q => c4 (Or.inr (Or.inr (Or.inr (Or.inr q))))
  rw [ewa, nI_toInt' (by omega)] at n4
  rw [ewb, nI_toInt' (by omega)] at n5
  have hma : ¬ S 48 a = -1 := fun q => c2 (Or.inl (by rw [q]; decide))
  have hi0 : i.toNatClampNeg = i.toInt.toNat := rfl
  have hj0 : jj.toNatClampNeg = jj.toInt.toNat := rfl
  have hn0 : n.toNatClampNeg = n.toInt.toNat := rfl
  generalize i.toNatClampNeg = i0 at hi0 ⊢
  generalize jj.toNatClampNeg = j0 at hj0 ⊢
  generalize n.toNatClampNeg = q at hn0 ⊢
  show SHR S (setA S 50 (fb_put (S 50) (fun k => S 50 (40 * a + i0 + k)) (40 * b + j0) q)) (setA S (110 + b) (va_cpy (S (110 + a)) (S (110 + b)) i0 j0 q))
  refine ⟨shT_a ?_, shT_b, ?_⟩
  · intro k h50 hk
    rw [setA_ne (R4_ne hk hb), setA_ne h50]
  · intro s' hs'
    have e48 : shT (setA S 50 (fb_put (S 50) (fun k => S 50 (40 * a + i0 + k)) (40 * b + j0) q)) (setA S (110 + b) (va_cpy (S (110 + a)) (S (110 + b)) i0 j0 q)) 48 = S 48 := by
      unfold shT
      rw [setA_ne (by decide), setA_ne (by omega)]
    have e49 : shT (setA S 50 (fb_put (S 50) (fun k => S 50 (40 * a + i0 + k)) (40 * b + j0) q)) (setA S (110 + b) (va_cpy (S (110 + a)) (S (110 + b)) i0 j0 q)) 49 = S 49 := by
      unfold shT
      rw [setA_ne (by decide), setA_ne (by omega)]
    have e50 : shT (setA S 50 (fb_put (S 50) (fun k => S 50 (40 * a + i0 + k)) (40 * b + j0) q)) (setA S (110 + b) (va_cpy (S (110 + a)) (S (110 + b)) i0 j0 q)) 50 = fb_put (S 50) (fun k => S 50 (40 * a + i0 + k)) (40 * b + j0) q := by
      unfold shT
      rw [setA_eq, setA_eq]
    rw [e48, e49, e50]
    obtain ⟨h1', w', hw', ew', hE'⟩ := h s' hs'
    refine ⟨h1', w', hw', ew', fun q1 i hi => ?_⟩
    show setA _ 50 _ (110 + s') i = _
    rw [setA_ne (by omega)]
    by_cases es : s' = b
    · subst es
      rw [setA_eq]
      unfold va_cpy
      by_cases ei : j0 ≤ i ∧ i < j0 + q
      · rw [if_pos ei, fb_put_in (by omega) (by omega), hEa hma _ (by omega)]
        congr 1
        omega
      · rw [if_neg ei, fb_put_out (by omega)]; exact hE' q1 i hi
    · rw [setA_ne (by omega), fb_put_out (by omega)]; exact hE' q1 i hi
