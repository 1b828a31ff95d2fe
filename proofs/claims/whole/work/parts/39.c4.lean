/-! THE CLASS: the cutter lays a coat out -/
section Ug
variable {S : MS} {f : Nat → Int32}
theorem mTk_U {c : Nat} {p : Int32} : mTk (setA S 2 f) c p = mTk S c p := rfl
theorem mBe_U {c : Nat} {q : Int32} : mBe (setA S 2 f) c q = mBe S c q := rfl
theorem tv_U {w : Nat} {fc : Nat → Int32} : tv (setA S 2 f) w fc = tv S w fc := by
  unfold tv tCode tBeg tEnd
  rw [cs_go (S := S) (T := setA S 2 f) rfl rfl]
  rfl
theorem mBear_U {c : Nat} {q : Int32} : mBear (setA S 2 f) c q = mBear S c q := by
  unfold mBear
  rw [tv_U]
  rfl
end Ug
theorem mAbs_neg (z : Int32) : mAbs (-z) = mAbs z := by
  have h0 : (0 : Int32).toInt = 0 := rfl
  by_cases hz : z.toInt = -2147483648
  · have e : z = -2147483648 := i_eq.mpr hz
    subst e
    decide
  · have h1 := fb_negI hz
    unfold mAbs
    simp only [i_lt, h0, h1]
    by_cases h2 : z.toInt < 0
    · rw [if_neg (by omega), if_pos h2]
    · rw [if_neg h2]
      by_cases h3 : z.toInt = 0
      · rw [if_neg (by omega)]
        rw [i_eq, h1]
        omega
      · rw [if_pos (by omega), Int32.neg_neg]
theorem mSeen_sym {S : MS} {a b : Nat} (h : a ≠ b) : mSeen S b a = mSeen S a b := by
  unfold mSeen
  rw [Int32.add_comm (S 2 b), show mSh S b - mSh S a = -(mSh S a - mSh S b) from Int32.neg_sub.symm, mAbs_neg]
  have e1 : (if S 4 b = S 4 a then (0 : Int32) else 1) = if S 4 a = S 4 b then 0 else 1 := by
    by_cases q : S 4 a = S 4 b
    · rw [if_pos q, if_pos q.symm]
    · rw [if_neg q, if_neg (fun e => q e.symm)]
  have e2 : (if b < a then S 4 b else S 4 a) = if a < b then S 4 a else S 4 b := by
    by_cases q : a < b
    · rw [if_pos q, if_neg (by omega)]
    · rw [if_neg q, if_pos (by omega)]
  rw [e1, e2]
/-- laid out so far: pn parts, qn meetings, an hanks, pairs before (a, b) -/
def LOp (T : MS) (κ : Nat) (U : MS) (n c pn qn an a b : Nat) : Prop := T (120 + 10 * κ) 3 = nI n ∧ (∀ p, p < pn → T (124 + 10 * κ) p = mTk U c (nI p)) ∧ (∀ q, q < qn → T (125 + 10 * κ) q = mBe U c (nI q) + mBear U c (nI q)) ∧ (∀ i, i < an → T (121 + 10 * κ) i = U 2 i) ∧ ∀ a' b', a' < b' → b' < n → (a' < a ∨ (a' = a ∧ b' < b)) → T (123 + 10 * κ) (a' * 6 + b') = mSeen U a' b' ∧ T (123 + 10 * κ) (b' * 6 + a') = mSeen U a' b'
section LOg
variable {T U : MS} {κ n c pn qn an a b : Nat}
theorem LOp.go {T' : MS} (h : LOp T κ U n c pn qn an a b) (h0 : T' (120 + 10 * κ) 3 = T (120 + 10 * κ) 3) (h4 : T' (124 + 10 * κ) = T (124 + 10 * κ)) (h5 : T' (125 + 10 * κ) = T (125 + 10 * κ)) (h1 : T' (121 + 10 * κ) = T (121 + 10 * κ)) (h3 : T' (123 + 10 * κ) = T (123 + 10 * κ)) : LOp T' κ U n c pn qn an a b := by
  unfold LOp
  rw [h0, h4, h5, h1, h3]
  exact h
theorem LOp.tk (h : LOp T κ U n c pn qn an a b) : LOp (up2 T (124 + 10 * κ) pn (mTk U c (nI pn))) κ U n c (pn + 1) qn an a b := by
  obtain ⟨h1, h2, h3, h4, h5⟩ := h
  refine ⟨by rw [up2_ne (by omega)]; exact h1, fun p hp => ?_, by rw [up2_ne (by omega)]; exact h3, by rw [up2_ne (by omega)]; exact h4, by rw [up2_ne (by omega)]; exact h5⟩
  rw [up2_eq]
  by_cases e : p = pn
  · subst e; exact pk_us
  · rw [pk_un e]; exact h2 p (by omega)
theorem LOp.be (h : LOp T κ U n c pn qn an a b) : LOp (up2 T (125 + 10 * κ) qn (mBe U c (nI qn) + mBear U c (nI qn))) κ U n c pn (qn + 1) an a b := by
  obtain ⟨h1, h2, h3, h4, h5⟩ := h
  refine ⟨by rw [up2_ne (by omega)]; exact h1, by rw [up2_ne (by omega)]; exact h2, fun p hp => ?_, by rw [up2_ne (by omega)]; exact h4, by rw [up2_ne (by omega)]; exact h5⟩
  rw [up2_eq]
  by_cases e : p = qn
  · subst e; exact pk_us
  · rw [pk_un e]; exact h3 p (by omega)
theorem LOp.ha (h : LOp T κ U n c pn qn an a b) : LOp (up2 T (121 + 10 * κ) an (U 2 an)) κ U n c pn qn (an + 1) a b := by
  obtain ⟨h1, h2, h3, h4, h5⟩ := h
  refine ⟨by rw [up2_ne (by omega)]; exact h1, by rw [up2_ne (by omega)]; exact h2, by rw [up2_ne (by omega)]; exact h3, fun p hp => ?_, by rw [up2_ne (by omega)]; exact h5⟩
  rw [up2_eq]
  by_cases e : p = an
  · subst e; exact pk_us
  · rw [pk_un e]; exact h4 p (by omega)
theorem LOp.ap (h : LOp T κ U n c pn qn an a b) (hab : a < b) (hb : b < n) (hn : n ≤ 6) : LOp (up2 (up2 T (123 + 10 * κ) (a * 6 + b) (mSeen U a b)) (123 + 10 * κ) (b * 6 + a) (mSeen U a b)) κ U n c pn qn an a (b + 1) := by
  obtain ⟨h1, h2, h3, h4, h5⟩ := h
  refine ⟨by rw [up2_ne (by omega), up2_ne (by omega)]; exact h1, by rw [up2_ne (by omega), up2_ne (by omega)]; exact h2, by rw [up2_ne (by omega), up2_ne (by omega)]; exact h3, by rw [up2_ne (by omega), up2_ne (by omega)]; exact h4, fun a' b' hab' hb' hd => ?_⟩
  rw [up2_eq, up2_eq]
  by_cases e : a' = a ∧ b' = b
  · obtain ⟨rfl, rfl⟩ := e
    exact ⟨by rw [pk_un (by omega), pk_us], pk_us⟩
  · have h := h5 a' b' hab' hb' (by omega)
    exact ⟨by rw [pk_un (by omega), pk_un (by omega)]; exact h.1, by rw [pk_un (by omega), pk_un (by omega)]; exact h.2⟩
theorem LOp.nx (h : LOp T κ U n c pn qn an a b) (hb : n ≤ b) : LOp T κ U n c pn qn an (a + 1) (a + 2) := by
  obtain ⟨h1, h2, h3, h4, h5⟩ := h
  exact ⟨h1, h2, h3, h4, fun a' b' hab' hb' hd => h5 a' b' hab' hb' (by omega)⟩
theorem LOp.fin (h : LOp T κ U n c 5 6 n n b) : LO T κ U n c := by
  obtain ⟨h1, h2, h3, h4, h5⟩ := h
  refine ⟨h1, h2, h3, h4, fun a b ha hb hab => ?_⟩
  rcases Nat.lt_or_ge a b with q | q
  · exact (h5 a b q hb (Or.inl ha)).1
  · rw [← mSeen_sym hab]
    exact (h5 b a (by omega) ha (Or.inl hb)).2
end LOg
def scC (κ t : Nat) : List Nat := [120 + 10 * κ, 121 + 10 * κ, 122 + 10 * κ, 123 + 10 * κ, 124 + 10 * κ, 125 + 10 * κ, 126 + 10 * κ, 80 + t, 90 + t]
theorem scC_n {κ t k : Nat} (h : k < 80 ∨ (100 ≤ k ∧ k < 120) ∨ 140 ≤ k) (hκ : κ < 2) (ht : t < 6) : k ∉ scC κ t := by
  unfold scC
  simp only [List.mem_cons, List.not_mem_nil, or_false]
  omega
theorem scC_ge {κ t : Nat} : ∀ q ∈ scC κ t, 60 ≤ q := by
  intro q hq
  unfold scC at hq
  simp only [List.mem_cons, List.not_mem_nil, or_false] at hq
  omega
theorem scC_2 {κ t : Nat} : ∀ q, q ∈ [80 + t, 90 + t] → q ∈ scC κ t := by
  intro q hq
  unfold scC
  simp only [List.mem_cons, List.not_mem_nil, or_false] at hq ⊢
  omega
/-- what a laying stands on -/
def LH (S : MS) (Q : Qt) (n t c : Nat) : Prop := S 1 0 = nI n ∧ n ≤ 6 ∧ TX S Q t ∧ WB S ∧ c < Q.2.1 ∧ KO S c
theorem LH.go {S T : MS} {Q : Qt} {κ n t c : Nat} (h : LH S Q n t c) (hκ : κ < 2) (hf : fr (scC κ t) S T) : LH T Q n t c := by
  obtain ⟨h1, h2, h3, h4, h5, h6⟩ := h
  have h7 := h3.2.1
  have h8 := h3.2.2.1
  have hk := hf.fk scC_ge
  exact ⟨by rw [hk 1 (by decide)]; exact h1, h2, TX_k h3 hk (hf _ (scC_n (by omega) hκ (by omega))) (hf _ (scC_n (by omega) hκ (by omega))) (hf _ (scC_n (by omega) hκ (by omega))), WB_k hk h4, h5, KO_k hk h6⟩
set_option maxHeartbeats 4000000 in
set_option maxRecDepth 100000 in
theorem lp_lo1 (G : Gt) (m : Nat → Prop) (M0 : Nat → va_E) (Q : Qt) (S : MS) (κ n t c ko io ro : Nat) (hκ : κ < 2) (hL : LH S Q n t c) (hO : ∀ S' : MS, cE G Q S' ko io = .inl (gC G 0, 6, .inl (S' ro))) (hol : io < lim Q ko) (hor : ro ≠ 7 ∧ ro ≠ 160) (hoo : ∀ j, ow ro j = (ko, io)) (hro : ro = 2 ∨ (100 ≤ ro ∧ ro < 110)) (Post : Option Value → MS → Prop) (K : ∀ T : MS, (fr (scC κ t) S T ∧ LOp T κ (setA S 2 (S ro)) n c 5 0 0 0 0) → PX G (CPic G m M0 Q) 5 Y3_layOut 36 [some (.ref (Q.1 13 κ)), some (.ref (Q.1 33 c)), some (.ref (Q.1 28 t)), some (.ref (Q.1 1 0)), some (.ref (Q.1 ko io)), some (.int (nI (5))), none, none] [] T 0 0 Post) : ∀ (kk p : Nat) (T : MS), (fr (scC κ t) S T ∧ LOp T κ (setA S 2 (S ro)) n c p 0 0 0 0) → p ≤ 5 → 5 + 1 ≤ p + kk → PX G (CPic G m M0 Q) 5 Y3_layOut 11 [some (.ref (Q.1 13 κ)), some (.ref (Q.1 33 c)), some (.ref (Q.1 28 t)), some (.ref (Q.1 1 0)), some (.ref (Q.1 ko io)), some (.int (nI (p))), none, none] [] T 0 0 Post := by
  obtain ⟨hn1, hn6, hTX, hWB, hc, hKO⟩ := hL
  have ht := hTX.2.1
  have h6 := hTX.2.2.1
  have hL : LH S Q n t c := ⟨hn1, hn6, hTX, hWB, hc, hKO⟩
  intro kk
  induction kk with
  | zero => intro p T hf h1 h2; omega
  | succ kk ih =>
    intro p T hf h1 h2
    refine px_iload dX3_layOut_11 rfl ?_
    refine px_iconst (v := 5) dX3_layOut_13 (by decide) ?_
    refine px_icmp_ge (tgt := 36) dX3_layOut_14 (by decide) (fun H14 => ?_) (fun H14 => ?_)
    · skip
      skip
      have eN : p = 5 := by have := ge_n (a := p) (b := 5) (by omega) (by omega) H14; omega
      rw [eN]
      rw [eN] at hf
      exact px_lw (ls' := [some (.ref (Q.1 13 κ)), some (.ref (Q.1 33 c)), some (.ref (Q.1 28 t)), some (.ref (Q.1 1 0)), some (.ref (Q.1 ko io)), some (.int (nI (5))), none, none]) (by simp [LW]) (K T hf)
    · skip
      skip
      have lN : p < 5 := lt_n (a := p) (b := 5) (by omega) (by omega) H14
      have hLT := hL.go hκ hf.1
      have hkT : fk S T := hf.1.fk scC_ge
      refine px_aload_n dX3_layOut_17 rfl rfl ?_
      refine cx_get (k := 13) (i := κ) (f := 7) dX3_layOut_18 gX3_21 rfl (show κ < 2 by omega) rfl ?_
      refine px_iload dX3_layOut_21 rfl ?_
      refine px_aload_n dX3_layOut_23 rfl rfl ?_
      refine px_iload dX3_layOut_24 rfl ?_
      refine cx_callOI1 (k := 33) (i := c) dX3_layOut_26 (ko_X3_39 _) rfl (show c < Q.2.1 by omega) (vk_cl _) (c_takesV G m M0 Q T c _ hLT.2.2.2.2.1 hLT.2.2.2.2.2) (by decide) (Nat.le_of_ble_eq_true rfl) (fun x26 S26 Q26 => ?_)
      obtain ⟨rfl, e26⟩ := Q26
      obtain rfl := e26.symm
      rw [mTk_k hkT, ← mTk_U (S := S) (f := S ro)]
      refine cx_iast (k := 17) (i := κ) (r := (124 + 10 * κ)) (p) dX3_layOut_29 (fun _ _ => rfl) (show κ < 2 by omega) (by omega) (ow_120 (by omega) _).2.2.2.2.1 rfl (by omega) (by decide) ?_
      refine px_iinc_5 (v := 1) dX3_layOut_30 (by decide) (by decide) rfl ?_
      refine px_goto (tgt := 11) dX3_layOut_33 (by decide) ?_
      refine px_lw (ls' := [some (.ref (Q.1 13 κ)), some (.ref (Q.1 33 c)), some (.ref (Q.1 28 t)), some (.ref (Q.1 1 0)), some (.ref (Q.1 ko io)), some (.int (nI ((p + 1)))), none, none]) ?_ (ih (p + 1) _ ⟨hf.1.up (by simp [scC]), hf.2.tk⟩ (by omega) (by omega))
      first
      | (simp [LW, LW, nI_1, *]; done)
      | (simp [LW, LW, nI_1, *]; rfl)
set_option maxHeartbeats 4000000 in
set_option maxRecDepth 100000 in
theorem lp_lo2 (G : Gt) (m : Nat → Prop) (M0 : Nat → va_E) (Q : Qt) (S : MS) (κ n t c ko io ro : Nat) (hκ : κ < 2) (hL : LH S Q n t c) (hO : ∀ S' : MS, cE G Q S' ko io = .inl (gC G 0, 6, .inl (S' ro))) (hol : io < lim Q ko) (hor : ro ≠ 7 ∧ ro ≠ 160) (hoo : ∀ j, ow ro j = (ko, io)) (hro : ro = 2 ∨ (100 ≤ ro ∧ ro < 110)) (Post : Option Value → MS → Prop) (K : ∀ T : MS, (fr (scC κ t) S T ∧ LOp T κ (setA S 2 (S ro)) n c 5 6 0 0 0) → PX G (CPic G m M0 Q) 5 Y3_layOut 66 [some (.ref (Q.1 13 κ)), some (.ref (Q.1 33 c)), some (.ref (Q.1 28 t)), some (.ref (Q.1 1 0)), some (.ref (Q.1 ko io)), some (.int (nI (6))), none, none] [] T 0 0 Post) : ∀ (kk q : Nat) (T : MS), (fr (scC κ t) S T ∧ LOp T κ (setA S 2 (S ro)) n c 5 q 0 0 0) → q ≤ 6 → 6 + 1 ≤ q + kk → PX G (CPic G m M0 Q) 5 Y3_layOut 39 [some (.ref (Q.1 13 κ)), some (.ref (Q.1 33 c)), some (.ref (Q.1 28 t)), some (.ref (Q.1 1 0)), some (.ref (Q.1 ko io)), some (.int (nI (q))), none, none] [] T 0 0 Post := by
  obtain ⟨hn1, hn6, hTX, hWB, hc, hKO⟩ := hL
  have ht := hTX.2.1
  have h6 := hTX.2.2.1
  have hL : LH S Q n t c := ⟨hn1, hn6, hTX, hWB, hc, hKO⟩
  intro kk
  induction kk with
  | zero => intro q T hf h1 h2; omega
  | succ kk ih =>
    intro q T hf h1 h2
    refine px_iload dX3_layOut_39 rfl ?_
    refine px_bipush (v := 6) dX3_layOut_41 (by decide) ?_
    refine px_icmp_ge (tgt := 66) dX3_layOut_43 (by decide) (fun H43 => ?_) (fun H43 => ?_)
    · skip
      skip
      have eN : q = 6 := by have := ge_n (a := q) (b := 6) (by omega) (by omega) H43; omega
      rw [eN]
      rw [eN] at hf
      exact px_lw (ls' := [some (.ref (Q.1 13 κ)), some (.ref (Q.1 33 c)), some (.ref (Q.1 28 t)), some (.ref (Q.1 1 0)), some (.ref (Q.1 ko io)), some (.int (nI (6))), none, none]) (by simp [LW]) (K T hf)
    · skip
      skip
      have lN : q < 6 := lt_n (a := q) (b := 6) (by omega) (by omega) H43
      have hLT := hL.go hκ hf.1
      have hkT : fk S T := hf.1.fk scC_ge
      refine px_aload_n dX3_layOut_46 rfl rfl ?_
      refine cx_get (k := 13) (i := κ) (f := 8) dX3_layOut_47 gX3_24 rfl (show κ < 2 by omega) rfl ?_
      refine px_iload dX3_layOut_50 rfl ?_
      refine px_aload_n dX3_layOut_52 rfl rfl ?_
      refine px_aload_n dX3_layOut_53 rfl rfl ?_
      refine px_iload dX3_layOut_54 rfl ?_
      refine cx_callI2 (k := 28) (i := t) dX3_layOut_56 lX3_44 rfl (show t < Q.2.2 by omega) rfl (c_X9_bearsInAll G m M0 Q T t c q hLT.2.2.1 hLT.2.2.2.2.1 hLT.2.2.2.2.2 lN) (by decide) (Nat.le_of_ble_eq_true rfl) (fun x56 S56 Q56 => ?_)
      obtain ⟨rfl, f56⟩ := Q56
      rw [mBe_k hkT, mBear_k hkT, ← mBe_U (S := S) (f := S ro), ← mBear_U (S := S) (f := S ro)]
      have g56 : fr (scC κ t) S S56 := hf.1.tr (f56.mono scC_2)
      have hs : ∀ k, k ≠ 80 + t → k ≠ 90 + t → S56 k = T k := fun k h1 h2 => f56 k (by simp only [List.mem_cons, List.not_mem_nil, or_false]; omega)
      have l56 := hf.2.go (T' := S56) (by rw [hs _ (by omega) (by omega)]) (hs _ (by omega) (by omega)) (hs _ (by omega) (by omega)) (hs _ (by omega) (by omega)) (hs _ (by omega) (by omega))
      refine cx_iast (k := 18) (i := κ) (r := (125 + 10 * κ)) (q) dX3_layOut_59 (fun _ _ => rfl) (show κ < 2 by omega) (by omega) (ow_120 (by omega) _).2.2.2.2.2.1 rfl (by omega) (by decide) ?_
      refine px_iinc_5 (v := 1) dX3_layOut_60 (by decide) (by decide) rfl ?_
      refine px_goto (tgt := 39) dX3_layOut_63 (by decide) ?_
      refine px_lw (ls' := [some (.ref (Q.1 13 κ)), some (.ref (Q.1 33 c)), some (.ref (Q.1 28 t)), some (.ref (Q.1 1 0)), some (.ref (Q.1 ko io)), some (.int (nI ((q + 1)))), none, none]) ?_ (ih (q + 1) _ ⟨g56.up (by simp [scC]), l56.be⟩ (by omega) (by omega))
      first
      | (simp [LW, LW, nI_1, *]; done)
      | (simp [LW, LW, nI_1, *]; rfl)
set_option maxHeartbeats 4000000 in
set_option maxRecDepth 100000 in
theorem lp_lo4 (G : Gt) (m : Nat → Prop) (M0 : Nat → va_E) (Q : Qt) (S : MS) (κ n t c ko io ro : Nat) (a : Nat) (hκ : κ < 2) (hL : LH S Q n t c) (hO : ∀ S' : MS, cE G Q S' ko io = .inl (gC G 0, 6, .inl (S' ro))) (hol : io < lim Q ko) (hor : ro ≠ 7 ∧ ro ≠ 160) (hoo : ∀ j, ow ro j = (ko, io)) (hro : ro = 2 ∨ (100 ≤ ro ∧ ro < 110)) (ha : a < n) (Post : Option Value → MS → Prop) (K : ∀ T : MS, (fr (scC κ t) S T ∧ LOp T κ (setA S 2 (S ro)) n c 5 6 (a + 1) a (a + 1 + (n - (a + 1)))) → PX G (CPic G m M0 Q) 5 Y3_layOut 154 [some (.ref (Q.1 13 κ)), some (.ref (Q.1 33 c)), some (.ref (Q.1 28 t)), some (.ref (Q.1 1 0)), some (.ref (Q.1 ko io)), some (.int (nI (a))), none, none] [] T 0 0 Post) : ∀ (kk k : Nat) (T : MS), (fr (scC κ t) S T ∧ LOp T κ (setA S 2 (S ro)) n c 5 6 (a + 1) a (a + 1 + k)) → k ≤ (n - (a + 1)) → (n - (a + 1)) + 1 ≤ k + kk → PX G (CPic G m M0 Q) 5 Y3_layOut 96 [some (.ref (Q.1 13 κ)), some (.ref (Q.1 33 c)), some (.ref (Q.1 28 t)), some (.ref (Q.1 1 0)), some (.ref (Q.1 ko io)), some (.int (nI (a))), some (.int (nI (a + 1 + k))), none] [] T 0 0 Post := by
  obtain ⟨hn1, hn6, hTX, hWB, hc, hKO⟩ := hL
  have ht := hTX.2.1
  have h6 := hTX.2.2.1
  have hL : LH S Q n t c := ⟨hn1, hn6, hTX, hWB, hc, hKO⟩
  intro kk
  induction kk with
  | zero => intro k T hf h1 h2; omega
  | succ kk ih =>
    intro k T hf h1 h2
    refine px_iload dX3_layOut_96 rfl ?_
    refine px_aload_n dX3_layOut_98 rfl rfl ?_
    refine cx_get (k := 13) (i := κ) (f := 3) dX3_layOut_99 gX3_36 rfl (show κ < 2 by omega) rfl ?_
    refine px_icmp_ge (tgt := 154) dX3_layOut_102 (by decide) (fun H102 => ?_) (fun H102 => ?_)
    · skip
      rw [hf.2.1] at H102
      have eN : k = (n - (a + 1)) := by have := ge_n (a := a + 1 + k) (b := n) (by omega) (by omega) H102; omega
      rw [eN]
      rw [eN] at hf
      exact px_lw (ls' := [some (.ref (Q.1 13 κ)), some (.ref (Q.1 33 c)), some (.ref (Q.1 28 t)), some (.ref (Q.1 1 0)), some (.ref (Q.1 ko io)), some (.int (nI (a))), none, none]) (by simp [LW]) (K T hf)
    · skip
      rw [hf.2.1] at H102
      have lN : a + 1 + k < n := lt_n (a := a + 1 + k) (b := n) (by omega) (by omega) H102
      have hLT := hL.go hκ hf.1
      have hkT : fk S T := hf.1.fk scC_ge
      refine px_aload_n dX3_layOut_105 rfl rfl ?_
      refine px_aload_n dX3_layOut_106 rfl rfl ?_
      refine px_aload dX3_layOut_107 rfl ?_
      refine px_iload dX3_layOut_109 rfl ?_
      refine px_iload dX3_layOut_111 rfl ?_
      refine cx_callI4 (k := 28) (i := t) dX3_layOut_113 lX3_50 rfl (show t < Q.2.2 by omega) rfl (c_X9_seenApart G m M0 Q T t ko io ro a (a + 1 + k) hLT.2.2.1 hO hol hLT.2.2.2.1 (by omega) (by omega) (by omega)) (by decide) (Nat.le_of_ble_eq_true rfl) (fun x113 S113 Q113 => ?_)
      obtain ⟨rfl, f113⟩ := Q113
      rw [mSeen_k (hkT.set2 (f := S ro) (g := T ro) (hf.1 _ (scC_n (by omega) hκ (by omega))))]
      have g113 : fr (scC κ t) S S113 := hf.1.tr (f113.mono scC_2)
      have hs : ∀ k, k ≠ 80 + t → k ≠ 90 + t → S113 k = T k := fun k h1 h2 => f113 k (by simp only [List.mem_cons, List.not_mem_nil, or_false]; omega)
      have l113 := hf.2.go (T' := S113) (by rw [hs _ (by omega) (by omega)]) (hs _ (by omega) (by omega)) (hs _ (by omega) (by omega)) (hs _ (by omega) (by omega)) (hs _ (by omega) (by omega))
      refine px_istore_7 dX3_layOut_116 (by decide) rfl ?_
      refine px_aload_n dX3_layOut_118 rfl rfl ?_
      refine cx_get (k := 13) (i := κ) (f := 6) dX3_layOut_119 gX3_18 rfl (show κ < 2 by omega) rfl ?_
      refine px_iload dX3_layOut_122 rfl ?_
      refine px_bipush (v := 6) dX3_layOut_124 (by decide) ?_
      refine px_imul dX3_layOut_126 ?_
      refine px_iload dX3_layOut_127 rfl ?_
      refine px_iadd dX3_layOut_129 ?_
      refine px_iload dX3_layOut_130 rfl ?_
      refine cx_iast (k := 16) (i := κ) (r := (123 + 10 * κ)) (a * 6 + (a + 1 + k)) dX3_layOut_132 (fun _ _ => rfl) (show κ < 2 by omega) (by omega) (ow_120 (by omega) _).2.2.2.1 (by rw [show (6 : Int32) = nI 6 from rfl, pk_mul, nI_add]) (by omega) (by decide) ?_
      refine px_aload_n dX3_layOut_133 rfl rfl ?_
      refine cx_get (k := 13) (i := κ) (f := 6) dX3_layOut_134 gX3_18 rfl (show κ < 2 by omega) rfl ?_
      refine px_iload dX3_layOut_137 rfl ?_
      refine px_bipush (v := 6) dX3_layOut_139 (by decide) ?_
      refine px_imul dX3_layOut_141 ?_
      refine px_iload dX3_layOut_142 rfl ?_
      refine px_iadd dX3_layOut_144 ?_
      refine px_iload dX3_layOut_145 rfl ?_
      refine cx_iast (k := 16) (i := κ) (r := (123 + 10 * κ)) ((a + 1 + k) * 6 + a) dX3_layOut_147 (fun _ _ => rfl) (show κ < 2 by omega) (by omega) (ow_120 (by omega) _).2.2.2.1 (by rw [show (6 : Int32) = nI 6 from rfl, pk_mul, nI_add]) (by omega) (by decide) ?_
      refine px_iinc_6 (v := 1) dX3_layOut_148 (by decide) (by decide) rfl ?_
      refine px_goto (tgt := 96) dX3_layOut_151 (by decide) ?_
      refine px_lw (ls' := [some (.ref (Q.1 13 κ)), some (.ref (Q.1 33 c)), some (.ref (Q.1 28 t)), some (.ref (Q.1 1 0)), some (.ref (Q.1 ko io)), some (.int (nI (a))), some (.int (nI (a + 1 + (k + 1)))), none]) ?_ (ih (k + 1) _ ⟨(g113.up (by simp [scC])).up (by simp [scC]), l113.ap (by omega) lN hn6⟩ (by omega) (by omega))
      first
      | (simp [LW, nI_sub1, LW, nI_1, *]; done)
      | (simp [LW, nI_sub1, LW, nI_1, *]; rfl)
set_option maxHeartbeats 4000000 in
set_option maxRecDepth 100000 in
theorem lp_lo3 (G : Gt) (m : Nat → Prop) (M0 : Nat → va_E) (Q : Qt) (S : MS) (κ n t c ko io ro : Nat) (hκ : κ < 2) (hL : LH S Q n t c) (hO : ∀ S' : MS, cE G Q S' ko io = .inl (gC G 0, 6, .inl (S' ro))) (hol : io < lim Q ko) (hor : ro ≠ 7 ∧ ro ≠ 160) (hoo : ∀ j, ow ro j = (ko, io)) (hro : ro = 2 ∨ (100 ≤ ro ∧ ro < 110)) (Post : Option Value → MS → Prop) (K : ∀ T : MS, (fr (scC κ t) S T ∧ LOp T κ (setA S 2 (S ro)) n c 5 6 n n (n + 1)) → PX G (CPic G m M0 Q) 5 Y3_layOut 160 [some (.ref (Q.1 13 κ)), some (.ref (Q.1 33 c)), some (.ref (Q.1 28 t)), some (.ref (Q.1 1 0)), some (.ref (Q.1 ko io)), some (.int (nI (n))), none, none] [] T 0 0 Post) : ∀ (kk a : Nat) (T : MS), (fr (scC κ t) S T ∧ LOp T κ (setA S 2 (S ro)) n c 5 6 a a (a + 1)) → a ≤ n → n + 1 ≤ a + kk → PX G (CPic G m M0 Q) 5 Y3_layOut 69 [some (.ref (Q.1 13 κ)), some (.ref (Q.1 33 c)), some (.ref (Q.1 28 t)), some (.ref (Q.1 1 0)), some (.ref (Q.1 ko io)), some (.int (nI (a))), none, none] [] T 0 0 Post := by
  obtain ⟨hn1, hn6, hTX, hWB, hc, hKO⟩ := hL
  have ht := hTX.2.1
  have h6 := hTX.2.2.1
  have hL : LH S Q n t c := ⟨hn1, hn6, hTX, hWB, hc, hKO⟩
  intro kk
  induction kk with
  | zero => intro a T hf h1 h2; omega
  | succ kk ih =>
    intro a T hf h1 h2
    refine px_iload dX3_layOut_69 rfl ?_
    refine px_aload_n dX3_layOut_71 rfl rfl ?_
    refine cx_get (k := 13) (i := κ) (f := 3) dX3_layOut_72 gX3_36 rfl (show κ < 2 by omega) rfl ?_
    refine px_icmp_ge (tgt := 160) dX3_layOut_75 (by decide) (fun H75 => ?_) (fun H75 => ?_)
    · skip
      rw [hf.2.1] at H75
      have eN : a = n := by have := ge_n (a := a) (b := n) (by omega) (by omega) H75; omega
      rw [eN]
      rw [eN] at hf
      exact px_lw (ls' := [some (.ref (Q.1 13 κ)), some (.ref (Q.1 33 c)), some (.ref (Q.1 28 t)), some (.ref (Q.1 1 0)), some (.ref (Q.1 ko io)), some (.int (nI (n))), none, none]) (by simp [LW]) (K T hf)
    · skip
      rw [hf.2.1] at H75
      have lN : a < n := lt_n (a := a) (b := n) (by omega) (by omega) H75
      have hLT := hL.go hκ hf.1
      have hkT : fk S T := hf.1.fk scC_ge
      refine px_aload_n dX3_layOut_78 rfl rfl ?_
      refine cx_get (k := 13) (i := κ) (f := 4) dX3_layOut_79 gX3_9 rfl (show κ < 2 by omega) rfl ?_
      refine px_iload dX3_layOut_82 rfl ?_
      refine px_aload dX3_layOut_84 rfl ?_
      refine px_iload dX3_layOut_86 rfl ?_
      refine cx_iald (k := ko) (i := io) (r := ro) (a) dX3_layOut_88 (hO _) hol rfl (by omega) (by decide) ?_
      rw [hf.1 _ (scC_n (by omega) hκ (by omega))]
      refine cx_iast (k := 14) (i := κ) (r := (121 + 10 * κ)) (a) dX3_layOut_89 (fun _ _ => rfl) (show κ < 2 by omega) (by omega) (ow_120 (by omega) _).2.1 rfl (by omega) (by decide) ?_
      refine px_iload dX3_layOut_90 rfl ?_
      refine px_iconst (v := 1) dX3_layOut_92 (by decide) ?_
      refine px_iadd dX3_layOut_93 ?_
      refine px_istore_6 dX3_layOut_94 (by decide) rfl ?_
      rw [nI_1]
      have r0 : fr (scC κ t) S (up2 T (121 + 10 * κ) a (S ro a)) ∧ LOp (up2 T (121 + 10 * κ) a (S ro a)) κ (setA S 2 (S ro)) n c 5 6 (a + 1) a (a + 1 + 0) := ⟨hf.1.up (by simp [scC]), hf.2.ha⟩
      refine px_lw (ls' := [some (.ref (Q.1 13 κ)), some (.ref (Q.1 33 c)), some (.ref (Q.1 28 t)), some (.ref (Q.1 1 0)), some (.ref (Q.1 ko io)), some (.int (nI (a))), some (.int (nI (a + 1 + 0))), none]) (by simp [LW]) (lp_lo4 G m M0 Q S κ n t c ko io ro a hκ hL hO hol hor hoo hro lN _ (fun T2 hf2 => ?_) (n - (a + 1) + 1) 0 _ r0 (by omega) (by omega))
      refine px_iinc_5 (v := 1) dX3_layOut_154 (by decide) (by decide) rfl ?_
      refine px_goto (tgt := 69) dX3_layOut_157 (by decide) ?_
      refine px_lw (ls' := [some (.ref (Q.1 13 κ)), some (.ref (Q.1 33 c)), some (.ref (Q.1 28 t)), some (.ref (Q.1 1 0)), some (.ref (Q.1 ko io)), some (.int (nI ((a + 1)))), none, none]) ?_ (ih (a + 1) _ ⟨hf2.1, hf2.2.nx (by omega)⟩ (by omega) (by omega))
      first
      | (simp [LW, LW, nI_1, *]; done)
      | (simp [LW, LW, nI_1, *]; rfl)
set_option maxHeartbeats 4000000 in
set_option maxRecDepth 100000 in
theorem c_X3_layOut (G : Gt) (m : Nat → Prop) (M0 : Nat → va_E) (Q : Qt) (S : MS) (κ n t c ko io ro : Nat) (hκ : κ < 2) (hL : LH S Q n t c) (hO : ∀ S' : MS, cE G Q S' ko io = .inl (gC G 0, 6, .inl (S' ro))) (hol : io < lim Q ko) (hor : ro ≠ 7 ∧ ro ≠ 160) (hoo : ∀ j, ow ro j = (ko, io)) (hro : ro = 2 ∨ (100 ≤ ro ∧ ro < 110)) : PC G (CPic G m M0 Q) 5 Y3_layOut [.ref (Q.1 13 κ), .ref (Q.1 33 c), .ref (Q.1 28 t), .ref (Q.1 1 0), .ref (Q.1 ko io)] S 0 0 (rv (fun S' => fr (scC κ t) S S' ∧ LO S' κ (setA S 2 (S ro)) n c)) := by
  obtain ⟨hn1, hn6, hTX, hWB, hc, hKO⟩ := hL
  have ht := hTX.2.1
  have h6 := hTX.2.2.1
  have hL : LH S Q n t c := ⟨hn1, hn6, hTX, hWB, hc, hKO⟩
  refine pc_of (ls := [some (.ref (Q.1 13 κ)), some (.ref (Q.1 33 c)), some (.ref (Q.1 28 t)), some (.ref (Q.1 1 0)), some (.ref (Q.1 ko io)), none, none, none]) (by decide +kernel) rfl (Nat.le_of_ble_eq_true rfl) ?_
  refine px_aload_n dX3_layOut_0 rfl rfl ?_
  refine px_aload_n dX3_layOut_1 rfl rfl ?_
  refine cx_get (k := 1) (i := 0) (f := 4) dX3_layOut_2 gX3_30 rfl Nat.one_pos rfl ?_
  refine cx_put (k := 13) (i := κ) (f := 3) (r := (120 + 10 * κ)) (j := 3) dX3_layOut_5 gX3_36 rfl (show κ < 2 by omega) (Nat.le_of_ble_eq_true rfl) (by omega) (ow_120 (by omega) _).1 (cpe_13_3 κ _) rfl rfl ?_
  rw [hn1]
  refine px_iconst (v := 0) dX3_layOut_8 (by decide) ?_
  refine px_istore_5 dX3_layOut_9 (by decide) rfl ?_
  refine px_lw (ls' := [some (.ref (Q.1 13 κ)), some (.ref (Q.1 33 c)), some (.ref (Q.1 28 t)), some (.ref (Q.1 1 0)), some (.ref (Q.1 ko io)), some (.int (nI (0))), none, none]) (by simp [LW]; rfl) (lp_lo1 G m M0 Q S κ n t c ko io ro hκ hL hO hol hor hoo hro _ (fun T1 f1 => ?_) 6 0 _ ⟨fr.rf.up (by simp [scC]), by simp [up2, upd], fun p hp => by omega, fun p hp => by omega, fun p hp => by omega, fun a b h1 h2 h3 => by omega⟩ (by omega) (by omega))
  refine px_iconst (v := 0) dX3_layOut_36 (by decide) ?_
  refine px_istore_5 dX3_layOut_37 (by decide) rfl ?_
  refine px_lw (ls' := [some (.ref (Q.1 13 κ)), some (.ref (Q.1 33 c)), some (.ref (Q.1 28 t)), some (.ref (Q.1 1 0)), some (.ref (Q.1 ko io)), some (.int (nI (0))), none, none]) (by simp [LW]; rfl) (lp_lo2 G m M0 Q S κ n t c ko io ro hκ hL hO hol hor hoo hro _ (fun T2 f2 => ?_) 7 0 _ f1 (by omega) (by omega))
  refine px_iconst (v := 0) dX3_layOut_66 (by decide) ?_
  refine px_istore_5 dX3_layOut_67 (by decide) rfl ?_
  refine px_lw (ls' := [some (.ref (Q.1 13 κ)), some (.ref (Q.1 33 c)), some (.ref (Q.1 28 t)), some (.ref (Q.1 1 0)), some (.ref (Q.1 ko io)), some (.int (nI (0))), none, none]) (by simp [LW]; rfl) (lp_lo3 G m M0 Q S κ n t c ko io ro hκ hL hO hol hor hoo hro _ (fun T3 f3 => ?_) (n + 1) 0 _ ⟨f2.1, f2.2.1, f2.2.2.1, f2.2.2.2.1, fun p hp => by omega, fun a b h1 h2 h3 => by omega⟩ (by omega) (by omega))
  refine px_return dX3_layOut_160 rfl ?_
  exact ⟨f3.1, f3.2.fin⟩
