/-! BOTH SIDES: text -/
theorem tx_20 {S : MS} {t : Nat} {z : PZ} {k : Nat} (hk : k < 18) : ∀ i, (tx S t z i).1 20 k = S 20 k
  | 0 => rfl
  | i + 1 => by
    by_cases h : zF (tx S t z i).2 < 0
    · rw [tx_go h]
      show zRb _ _ _ _ _ _ 20 k = _
      unfold zRb
      split
      · rw [up2_eq, pk_un (by omega)]
        exact tx_20 hk i
      · exact tx_20 hk i
    · rw [tx_no h]
      exact tx_20 hk i
theorem lc_lo {g : Nat → Int32} {l : List Int32} {k : Nat} (h : k < 1020) : lc g l k = g k := if_neg (by omega)
theorem cp_lo {g : Nat → Int32} {b k : Nat} {l : List Int32} (h : k < b) : cp g b l k = g k := if_neg (by omega)
theorem cp_in {g : Nat → Int32} {b k : Nat} {l : List Int32} {x : Int32} (h : l[k]? = some x) : cp g b l (b + k) = x := by
  have hk : k < l.length := (List.getElem?_eq_some_iff.mp h).1
  unfold cp
  rw [if_pos ⟨by omega, by omega⟩, show b + k - b = k by omega, h]
  rfl
theorem e3_lo {g : Nat → Int32} {q k : Nat} (h : k < 3 * q) : ∀ i, e3 g q i k = g k
  | 0 => rfl
  | i + 1 => by
    rw [e3, pk_un (by omega)]
    exact e3_lo h i
theorem e3_hi {g : Nat → Int32} {q k : Nat} (hq : q < 6) (h : 18 ≤ k) : ∀ i, i ≤ 3 → e3 g q i k = g k
  | 0, _ => rfl
  | i + 1, hi => by
    rw [e3, pk_un (by omega)]
    exact e3_hi hq h i (by omega)
theorem e3_in {g : Nat → Int32} {q j : Nat} (hq : q < 6) (hj : j < 3) : e3 g q 3 (3 * q + j) = g (18 + j) := by
  rcases (by omega : j = 0 ∨ j = 1 ∨ j = 2) with rfl | rfl | rfl
  · rw [e3, pk_un (by omega), e3, pk_un (by omega), e3, pk_us, e3]
  · rw [e3, pk_un (by omega), e3, pk_us, e3_hi hq (by decide) 1 (by decide)]
  · rw [e3, pk_us, e3_hi hq (by decide) 2 (by decide)]
/-- the reference behind a reading: what changed -/
def tTT (S : MS) (t : Nat) (r : MS × PZ) : MS := layz (up2 r.1 15 0 0) (txW r.2)
theorem tTT_fr {S : MS} {t : Nat} {z : PZ} {i : Nat} : fr [15, 18, 19, 20, 21, 22, 23, 24, 25, 26, 27] S (tTT S t (tx S t z i)) := fun k hk => by
  simp only [List.mem_cons, List.not_mem_nil, or_false, not_or] at hk
  have e := lay_fr (S := up2 (tx S t z i).1 15 0 0) (a := zA (txW (tx S t z i).2)) (b := zB (txW (tx S t z i).2)) (s := zS (txW (tx S t z i).2)) (v := zV (txW (tx S t z i).2)) (f := zF (txW (tx S t z i).2)) (o := zO (txW (tx S t z i).2)) (L := zL (txW (tx S t z i).2)) k (by simp only [List.mem_cons, List.not_mem_nil, or_false, not_or]; omega)
  exact e.trans ((up2_ne hk.1).trans (tx_ne (by omega) i))
theorem tTT_15 {S : MS} {t : Nat} {z : PZ} {i : Nat} : tTT S t (tx S t z i) 15 = upd (S 15) 0 0 := by
  show up2 (tx S t z i).1 15 0 0 15 = _
  rw [up2_eq, tx_ne (by decide) i]
theorem tTT_18 {S : MS} {t : Nat} {z : PZ} {i k : Nat} (hk : k < 1020) : tTT S t (tx S t z i) 18 k = S 18 k ∧ tTT S t (tx S t z i) 19 k = S 19 k := by
  constructor
  · show lc (up2 (tx S t z i).1 15 0 0 18) _ k = _
    rw [lc_lo hk, up2_ne (by decide), tx_ne (by decide) i]
  · show lc (up2 (tx S t z i).1 15 0 0 19) _ k = _
    rw [lc_lo hk, up2_ne (by decide), tx_ne (by decide) i]
theorem tTT_20 {S : MS} {t : Nat} {z : PZ} {i : Nat} : tTT S t (tx S t z i) 20 = (tx S t z i).1 20 := rfl
/-- texts that both sides hold -/
def ATX (S : MS) (n : Nat) : Prop := ∀ j, j < n → ∀ w, w < 3 → TXC S j w (tqL S j w) ∧ (j ≠ 0 → TOK S j w)
theorem cs_range {S T : MS} : ∀ (n s : Nat), (∀ k, s ≤ k → k < s + n → T 18 k = S 18 k ∧ T 19 k = S 19 k) → cs T s n = cs S s n
  | 0, _, _ => rfl
  | n + 1, s, h => by
    rw [cs, cs, cs_range n (s + 1) (fun k h1 h2 => h k (by omega) (by omega)), (h s (by omega) (by omega)).1, (h s (by omega) (by omega)).2]
theorem cs_list {T : MS} : ∀ (L : List (Int32 × Int32)) (s : Nat), (∀ k c, L[k]? = some c → T 18 (s + k) = c.1 ∧ T 19 (s + k) = c.2) → cs T s L.length = L
  | [], _, _ => rfl
  | c :: L, s, h => by
    have h0 := h 0 c rfl
    rw [Nat.add_zero] at h0
    rw [List.length_cons, cs, cs_list L (s + 1) (fun k c' hk => by rw [show s + 1 + k = s + (k + 1) by omega]; exact h (k + 1) c' hk), h0.1, h0.2]
theorem TXC.go' {S T : MS} {t w : Nat} {L : List (Int32 × Int32)} (h : TXC S t w L) (h1 : T 160 t = S 160 t) (h2 : T (150 + t) = S (150 + t)) (h3 : T (70 + t) = S (70 + t)) : TXC T t w L := by
  unfold TXC
  rw [h1, h2, h3]
  exact h
theorem tok_go {S T : MS} {q j w : Nat} (hq : q ≤ 6) (hj : j < q) (hw : w < 3) (h : TOK S j w) (h18 : ∀ k, k < 170 * q → T 18 k = S 18 k ∧ T 19 k = S 19 k) (h20 : ∀ k, k < 3 * q → T 20 k = S 20 k) : tCode T j w = tCode S j w ∧ TOK T j w := by
  obtain ⟨b, e, h1, h2, h3, h4, h5, h6⟩ := h
  have eE : tEnd T j w = tEnd S j w := by unfold tEnd; rw [h20 _ (by omega)]
  have eB : tBeg T j w = tBeg S j w := by
    unfold tBeg
    split
    · rfl
    · rw [h20 _ (by omega)]
  have vE : tEnd S j w = e := by unfold tEnd; rw [h3, nI_clamp (by omega)]
  have eC : tCode T j w = tCode S j w := by
    unfold tCode
    rw [eE, eB]
    refine cs_range _ _ (fun k k1 k2 => h18 k ?_)
    rw [vE] at k2
    have vB : tBeg S j w ≤ e := by
      unfold tBeg
      split
      · omega
      · rw [h1 (by assumption), nI_clamp (by omega)]; exact h4
    have : 170 * j + 170 ≤ 170 * q := by omega
    omega
  refine ⟨eC, b, e, fun hw0 => ?_, h2, ?_, h4, h5, by rw [eC]; exact h6⟩
  · rw [h20 _ (by omega)]; exact h1 hw0
  · rw [h20 _ (by omega)]; exact h3
theorem atx_go {S T : MS} {q : Nat} (h : ATX S q) (hq : q ≤ 6) (h18 : ∀ k, k < 170 * q → T 18 k = S 18 k ∧ T 19 k = S 19 k) (h20 : ∀ k, k < 3 * q → T 20 k = S 20 k) (hr : ∀ j, j < q → T 160 j = S 160 j ∧ T (70 + j) = S (70 + j) ∧ T (150 + j) = S (150 + j)) : ATX T q := fun j hj w hw => by
  obtain ⟨h1, h2⟩ := h j hj w hw
  obtain ⟨r1, r2, r3⟩ := hr j hj
  by_cases h0 : j = 0
  · subst h0
    refine ⟨?_, fun e => absurd rfl e⟩
    rw [show tqL T 0 w = tqL S 0 w by rw [tqL, tqL, if_pos rfl, if_pos rfl]]
    exact h1.go' r1 r3 r2
  · obtain ⟨g1, g2⟩ := tok_go hq hj hw (h2 h0) h18 h20
    rw [show tqL T j w = tqL S j w by rw [tqL, tqL, if_neg h0, if_neg h0, g1]]
    exact ⟨h1.go' r1 r3 r2, fun _ => g2⟩
theorem mid_get {A M B : List (Int32 × Int32)} {k : Nat} {c : Int32 × Int32} (h : M[k]? = some c) : (A ++ M ++ B)[A.length + k]? = some c := by
  have hk : k < M.length := (List.getElem?_eq_some_iff.mp h).1
  rw [List.append_assoc, List.getElem?_append_right (by omega), show A.length + k - A.length = k by omega, List.getElem?_append_left hk]
  exact h
/-- one part of a text that came -/
theorem atx_w {T : MS} {q w : Nat} {A M B : List (Int32 × Int32)} (hq : q ≠ 0) (hw : w < 3) (hM : SND M) (hlen : (A ++ M ++ B).length ≤ 160) (h160 : T 160 q = nI (A ++ M ++ B).length) (h0 : w = 0 → A.length = 0) (h1 : w ≠ 0 → T (150 + q) (w - 1) = nI A.length ∧ T 20 (3 * q + w - 1) = nI A.length) (h2 : T (150 + q) w = nI (A ++ M).length ∧ T 20 (3 * q + w) = nI (A ++ M).length) (hc : ∀ k c, (A ++ M ++ B)[k]? = some c → T (70 + q) k = enc c.1 c.2 ∧ T 18 (170 * q + k) = c.1 ∧ T 19 (170 * q + k) = c.2) : TXC T q w (tqL T q w) ∧ TOK T q w := by
  have l1 : (A ++ M ++ B).length = A.length + M.length + B.length := by simp [Nat.add_assoc]
  have l2 : (A ++ M).length = A.length + M.length := by simp
  have eC : tCode T q w = M := by
    have eE : tEnd T q w = A.length + M.length := by unfold tEnd; rw [h2.2, l2, nI_clamp (by omega)]
    have eB : tBeg T q w = A.length := by
      unfold tBeg
      by_cases w0 : w = 0
      · rw [if_pos w0, h0 w0]
      · rw [if_neg w0, (h1 w0).2, nI_clamp (by omega)]
    unfold tCode
    rw [eE, eB, show A.length + M.length - A.length = M.length by omega]
    exact cs_list M _ (fun k c hk => by
      have := hc (A.length + k) c (mid_get hk)
      rw [show 170 * q + A.length + k = 170 * q + (A.length + k) by omega]
      exact this.2)
  have eL : tqL T q w = M := by rw [tqL, if_neg hq, eC]
  rw [eL]
  refine ⟨⟨A.length, A.length + M.length, (A ++ M ++ B).length, h160, hlen, h0, fun w0 => (h1 w0).1, by rw [← l2]; exact h2.1, rfl, by omega, fun k hk => ?_, hM.1.nil⟩, ⟨A.length, A.length + M.length, fun w0 => (h1 w0).2, h0, by rw [← l2]; exact h2.2, by omega, by omega, by rw [eC]; exact hM.1.nil⟩⟩
  exact ⟨(hc (A.length + k) _ (mid_get (List.getElem?_eq_getElem hk))).1, hM.2 _ (List.getElem_mem hk)⟩
/-- what text leaves for the texts -/
def ATN (S F T : MS) (n n' : Nat) : Prop := ∀ U : MS, U 18 = F 18 → U 19 = F 19 → U 20 = F 20 → U 160 = T 160 → (∀ j, j < 6 → U (70 + j) = T (70 + j) ∧ U (150 + j) = T (150 + j)) → ATX S n → ATX U n'
theorem atx_bad {S T : MS} {t q : Nat} {z : PZ} (hq : q ≤ 6) (hT : fr [15, 62, 63] S T) : ATN S (tTT S t (tx S t z 3)) T q q := fun U u18 u19 u20 u160 uj h => atx_go h hq (fun k hk => by
    have := tTT_18 (S := S) (t := t) (z := z) (i := 3) (k := k) (by omega)
    rw [u18, u19]; exact this) (fun k hk => by rw [u20, tTT_20]; exact tx_20 (by omega) 3) (fun j hj => by
    rw [u160, (uj j (by omega)).1, (uj j (by omega)).2, hT 160 (by decide), hT (70 + j) (by simp only [List.mem_cons, List.not_mem_nil, or_false]; omega), hT (150 + j) (by simp only [List.mem_cons, List.not_mem_nil, or_false]; omega)]
    exact ⟨rfl, rfl, rfl⟩)
def tOK (S : MS) (t q : Nat) (r : MS × PZ) : MS := up2 (setA (tA (tTT S t r) q (zL (txW r.2))) 20 (e3 (tA (tTT S t r) q (zL (txW r.2)) 20) q 3)) 16 0 (nI (q + 1))
theorem atx_ok {S T : MS} {t q : Nat} {z : PZ} {x f : Nat → Int32} (hq1 : 1 ≤ q) (hq : q < 6) (hz : Zi t z) (ho : zO z = 0) (hL : zL z = []) (hT : fr [15, 62, 63] S T) (hf : zF (txW (tx S t z 3).2) < 0) (hx : ∀ (i : Nat) (hi : i < (zL (txW (tx S t z 3).2)).length), x i = enc (zL (txW (tx S t z 3).2))[i].1 (zL (txW (tx S t z 3).2))[i].2) (hff : ∀ j, j < 3 → f j = (tx S t z 3).1 20 (18 + j)) : ATN S (tOK S t q (tx S t z 3)) (Sx T q (zL (txW (tx S t z 3).2)).length x f) q (q + 1) := by
  have hg := tx_g (S := S) hz ho 3
  have hf3 : zF (tx S t z 3).2 < 0 := by
    by_cases h : zF (tx S t z 3).2 < 0
    · exact h
    · rw [txW, if_neg (fun w => h w.1)] at hf
      exact hf
  have eW : txW (tx S t z 3).2 = (tx S t z 3).2 := by
    by_cases h : zF (tx S t z 3).2 < 0 ∧ ¬ zS (tx S t z 3).2 = 4
    · rw [txW, if_pos h] at hf
      exact absurd hf (zW_f hg.1)
    · rw [txW, if_neg h]
  have hlen := tx_len hz ho hL hf3
  obtain ⟨L0, L1, L2, a1, s0, s1, s2, b0, b1, b2⟩ := tx_y hz ho hL hf3
  rw [eW] at hx ⊢
  have e16 : ∀ k, k ≠ 16 → tOK S t q (tx S t z 3) k = setA (tA (tTT S t (tx S t z 3)) q (zL (txW (tx S t z 3).2))) 20 (e3 (tA (tTT S t (tx S t z 3)) q (zL (txW (tx S t z 3).2)) 20) q 3) k := fun k hk => up2_ne hk
  have F20 : tOK S t q (tx S t z 3) 20 = e3 ((tx S t z 3).1 20) q 3 := by rw [e16 20 (by decide), setA_eq]; rfl
  have F18 : tOK S t q (tx S t z 3) 18 = cp (tTT S t (tx S t z 3) 18) (170 * q) ((zL (tx S t z 3).2).map Prod.fst) := by rw [e16 18 (by decide), setA_ne (by decide), eW]; rfl
  have F19 : tOK S t q (tx S t z 3) 19 = cp (tTT S t (tx S t z 3) 19) (170 * q) ((zL (tx S t z 3).2).map Prod.snd) := by rw [e16 19 (by decide), setA_ne (by decide), eW]; rfl
  intro U u18 u19 u20 u160 uj h
  rw [a1] at hx hlen F18 F19 u160 uj
  have hc : ∀ k c, (L0 ++ L1 ++ L2)[k]? = some c → U (70 + q) k = enc c.1 c.2 ∧ U 18 (170 * q + k) = c.1 ∧ U 19 (170 * q + k) = c.2 := fun k c hk => by
    obtain ⟨hk1, hk2⟩ := List.getElem?_eq_some_iff.mp hk
    refine ⟨?_, ?_, ?_⟩
    · rw [(uj q hq).1, Sx_q70 hq, hx k hk1, hk2]
    · rw [u18, F18, cp_in (x := c.1) (by rw [List.getElem?_map, hk]; rfl)]
    · rw [u19, F19, cp_in (x := c.2) (by rw [List.getElem?_map, hk]; rfl)]
  have h160 : U 160 q = nI (L0 ++ L1 ++ L2).length := by rw [u160, Sx_q160]
  have h150 : ∀ j, j < 3 → U (150 + q) j = (tx S t z 3).1 20 (18 + j) := fun j hj => by rw [(uj q hq).2, Sx_q150 hq, hff j hj]
  have h20 : ∀ j, j < 3 → U 20 (3 * q + j) = (tx S t z 3).1 20 (18 + j) := fun j hj => by rw [u20, F20, e3_in hq hj]
  have hb : ∀ j, j < q + 1 → j < q ∨ j = q := fun j hj => by omega
  intro j hj w hw
  rcases hb j hj with hj | hj
  · exact atx_go h (by omega) (fun k hk => by
      have := tTT_18 (S := S) (t := t) (z := z) (i := 3) (k := k) (by omega)
      rw [u18, u19, F18, F19, cp_lo hk, cp_lo hk]; exact this) (fun k hk => by rw [u20, F20, e3_lo hk]; exact tx_20 (by omega) 3) (fun j hj => by
      rw [u160, (uj j (by omega)).1, (uj j (by omega)).2, Sx_160 (by omega), Sx_t (r := 70) hq (by omega) (by omega) (by decide), Sx_t (r := 150) hq (by omega) (by omega) (by decide), hT 160 (by decide), hT (70 + j) (by simp only [List.mem_cons, List.not_mem_nil, or_false]; omega), hT (150 + j) (by simp only [List.mem_cons, List.not_mem_nil, or_false]; omega)]
      exact ⟨rfl, rfl, rfl⟩) j hj w hw
  · subst hj
    have v0 := h150 0 (by decide)
    have v1 := h150 1 (by decide)
    have v2 := h150 2 (by decide)
    have w0 := h20 0 (by decide)
    have w1 := h20 1 (by decide)
    have w2 := h20 2 (by decide)
    rw [b0] at v0 w0
    rw [b1] at v1 w1
    rw [b2] at v2 w2
    rcases (by omega : w = 0 ∨ w = 1 ∨ w = 2) with rfl | rfl | rfl
    · have := atx_w (T := U) (q := j) (w := 0) (A := []) (M := L0) (B := L1 ++ L2) (by omega) (by omega) s0 (by rw [List.nil_append, ← List.append_assoc]; omega) (by rw [List.nil_append, ← List.append_assoc]; exact h160) (fun _ => rfl) (fun e => absurd rfl e) ⟨v0, w0⟩ (by rw [List.nil_append, ← List.append_assoc]; exact hc)
      exact ⟨this.1, fun _ => this.2⟩
    · have := atx_w (T := U) (q := j) (w := 1) (A := L0) (M := L1) (B := L2) (by omega) (by omega) s1 (by omega) h160 (fun e => absurd e (by decide)) (fun _ => ⟨v0, w0⟩) ⟨v1, w1⟩ hc
      exact ⟨this.1, fun _ => this.2⟩
    · have := atx_w (T := U) (q := j) (w := 2) (A := L0 ++ L1) (M := L2) (B := []) (by omega) (by omega) s2 (by rw [List.append_nil]; omega) (by rw [List.append_nil]; exact h160) (fun e => absurd e (by decide)) (fun _ => ⟨v1, w1⟩) ⟨v2, w2⟩ (by rw [List.append_nil]; exact hc)
      exact ⟨this.1, fun _ => this.2⟩
def XT (q : Nat) : List Nat := [18, 19, 20, 21, 22, 23, 24, 25, 26, 27, 62, 63, 160, 70 + q, 80 + q, 90 + q, 150 + q]
theorem txW_L {z : PZ} : zL (txW z) = zL z := by unfold txW; split <;> rfl
theorem f_text_bad {S T : MS} {t q : Nat} {z1 : PZ} (hF : f_text S = txO (tx S t z1 3).1 (tx S t z1 3).2 q) (hQ : S 16 0 = nI q) (hq : q ≤ 6) (hfr : fr [15, 62, 63] S T) (hf15 : T 15 = upd (S 15) 0 0) (hzf : ¬ zF (txW (tx S t z1 3).2) < 0) : ∃ F, f_text S = (-100 - zF (txW (tx S t z1 3).2), F) ∧ fr (XT q) F T ∧ F 16 0 = nI q ∧ ATN S F T q q := by
  have a1 := tTT_fr (S := S) (t := t) (z := z1) (i := 3)
  have a2 := tTT_15 (S := S) (t := t) (z := z1) (i := 3)
  have a3 := atx_bad (S := S) (T := T) (t := t) (q := q) (z := z1) hq hfr
  refine ⟨tTT S t (tx S t z1 3), by rw [hF, txO, if_pos hzf]; rfl, fun k hk => ?_, ?_, a3⟩
  · generalize tTT S t (tx S t z1 3) = F at a1 a2
    simp only [XT, List.mem_cons, List.not_mem_nil, or_false, not_or] at hk
    by_cases e15 : k = 15
    · subst e15
      exact hf15.trans a2.symm
    · exact (hfr k (by simp only [List.mem_cons, List.not_mem_nil, or_false, not_or]; omega)).trans (a1 k (by simp only [List.mem_cons, List.not_mem_nil, or_false, not_or]; omega)).symm
  · generalize tTT S t (tx S t z1 3) = F at a1
    rw [a1 16 (by decide)]
    exact hQ
theorem f_text_good {S T : MS} {t q : Nat} {z1 : PZ} {x f : Nat → Int32} (hF : f_text S = txO (tx S t z1 3).1 (tx S t z1 3).2 q) (hq1 : 1 ≤ q) (hq : q < 6) (hz : Zi t z1) (ho : zO z1 = 0) (hL : zL z1 = []) (hfr : fr [15, 62, 63] S T) (hf15 : T 15 = upd (S 15) 0 0) (hzf : zF (txW (tx S t z1 3).2) < 0) (hx : ∀ (i : Nat) (hi : i < (zL (txW (tx S t z1 3).2)).length), x i = enc (zL (txW (tx S t z1 3).2))[i].1 (zL (txW (tx S t z1 3).2))[i].2) (hff : ∀ j, j < 3 → f j = (tx S t z1 3).1 20 (18 + j)) : ∃ F, f_text S = (nI q, F) ∧ fr (XT q) F (up2 (Sx T q (zL (txW (tx S t z1 3).2)).length x f) 16 0 (nI (q + 1))) ∧ F 16 0 = nI (q + 1) ∧ ATN S F (up2 (Sx T q (zL (txW (tx S t z1 3).2)).length x f) 16 0 (nI (q + 1))) q (q + 1) := by
  have a1 := tTT_fr (S := S) (t := t) (z := z1) (i := 3)
  have a2 := tTT_15 (S := S) (t := t) (z := z1) (i := 3)
  have a3 := atx_ok (S := S) (T := T) (t := t) (q := q) (z := z1) (x := x) (f := f) hq1 hq hz ho hL hfr hzf hx hff
  refine ⟨tOK S t q (tx S t z1 3), by rw [hF, txO, if_neg (not_not_intro hzf)]; rfl, fun k hk => ?_, by unfold tOK; rw [up2_eq, pk_us], fun U u18 u19 u20 u160 uj => ?_⟩
  · unfold tOK
    generalize zL (txW (tx S t z1 3).2) = L
    generalize tTT S t (tx S t z1 3) = F at a1 a2 ⊢
    simp only [XT, List.mem_cons, List.not_mem_nil, or_false, not_or] at hk
    by_cases e9 : k = 16
    · subst e9
      unfold tA
      rw [up2_eq, up2_eq, Sx_r hq (Or.inl (by decide)), setA_ne (by decide), setA_ne (by decide), setA_ne (by decide), hfr 16 (by decide), a1 16 (by decide)]
    · rw [up2_ne e9, up2_ne e9, setA_ne (by omega), Sx_fr hq k (by simp only [List.mem_cons, List.not_mem_nil, or_false, not_or]; omega)]
      unfold tA
      rw [setA_ne (by omega), setA_ne (by omega)]
      by_cases e15 : k = 15
      · subst e15
        exact hf15.trans a2.symm
      · exact (hfr k (by simp only [List.mem_cons, List.not_mem_nil, or_false, not_or]; omega)).trans (a1 k (by simp only [List.mem_cons, List.not_mem_nil, or_false, not_or]; omega)).symm
  · refine a3 U u18 u19 u20 ?_ (fun j hj => ?_)
    · rw [u160]; exact up2_ne (by decide)
    · obtain ⟨v1, v2⟩ := uj j hj
      rw [v1, v2]
      exact ⟨up2_ne (by omega), up2_ne (by omega)⟩
set_option maxHeartbeats 400000 in
set_option maxRecDepth 100000 in
theorem text_end (G : Gt) (m : Nat → Prop) (M0 : Nat → va_E) (Q : Qt) (S : MS) (z : Option Value) (P : Int32 → MS → Prop) (hfin : P (S 16 0 + 1 - 1) (up2 S 16 0 (S 16 0 + 1))) : PX G (CPic G m M0 Q) 55 Y11_text 45 [some (.ref (Q.1 0 0)), z] [] S 0 0 (ri P) := by
  refine px_aload_n dX11_text_45 rfl rfl ?_
  refine px_dup dX11_text_46 rfl ?_
  refine cx_get (k := 0) (i := 0) (f := 5) dX11_text_47 gX11_69 rfl Nat.one_pos rfl ?_
  refine px_iconst (v := 1) dX11_text_50 (by decide) ?_
  refine px_iadd dX11_text_51 ?_
  refine cx_put (k := 0) (i := 0) (f := 5) (r := 16) (j := 0) dX11_text_52 gX11_69 rfl Nat.one_pos (Nat.le_of_ble_eq_true rfl) (by decide) rfl (cpe_0_5 0 _) rfl rfl ?_
  refine px_aload_n dX11_text_55 rfl rfl ?_
  refine cx_get (k := 0) (i := 0) (f := 5) dX11_text_56 gX11_69 rfl Nat.one_pos rfl ?_
  refine px_iconst (v := 1) dX11_text_59 (by decide) ?_
  refine px_isub dX11_text_60 ?_
  refine px_iretI dX11_text_61 rfl ?_
  exact hfin
set_option maxHeartbeats 400000 in
set_option maxRecDepth 100000 in
theorem c_X11_text (G : Gt) (m : Nat → Prop) (M0 : Nat → va_E) (Q : Qt) (S : MS) (t : Nat) (hG : TP G S t) (hQ : S 16 0 = nI Q.2.2) (h1 : 1 ≤ Q.2.2) (h6 : Q.2.2 ≤ 6) (h60 : (S 60 0).toNatClampNeg ≠ Q.2.2) : PC G (C2 G m M0) 55 Y11_text [.ref (Q.1 0 0)] (S, Q) 5 333 (ri (fun x p => x = (f_text S).1 ∧ fr (XT Q.2.2) (f_text S).2 p.1 ∧ (∀ k' i', i' < lim Q k' → p.2.1 k' i' = Q.1 k' i') ∧ p.2.2.1 = Q.2.1 ∧ (f_text S).2 16 0 = nI p.2.2.2 ∧ p.2.2.2 ≤ 6 ∧ Q.2.2 ≤ p.2.2.2 ∧ ATN S (f_text S).2 p.1 Q.2.2 p.2.2.2)) := by
  refine pc_of (ls := [some (.ref (Q.1 0 0)), none]) (by decide +kernel) rfl (Nat.le_of_ble_eq_true rfl) ?_
  intro h hp
  have hp : CPic G m M0 Q S h := hp
  refine ax_aload_n dX11_text_0 rfl rfl ?_
  refine ay_get hp (k := 0) (i := 0) (f := 5) dX11_text_1 gX11_69 rfl Nat.one_pos rfl ?_
  refine ax_bipush (v := 6) dX11_text_4 (by decide) ?_
  refine ax_icmp_lt (tgt := 12) dX11_text_6 (by decide) (fun H6 => ?_) (fun H6 => ?_)
  · skip
    rw [hQ] at H6
    have l6 : Q.2.2 < 6 := lt_n (a := Q.2.2) (b := 6) (by omega) (by omega) H6
    refine ax_aload_n dX11_text_12 rfl rfl ?_
    refine ay_get hp (k := 0) (i := 0) (f := 3) dX11_text_13 gX11_25 rfl Nat.one_pos rfl ?_
    have hzi : Zi t (zN (S 14) t (z00 S)) := zN_i (z00_i hG.2.2.1)
    have hF := f_text_eq hG.2.1 hG.2.2.1 hQ l6
    have ho1 : zO (zN (S 14) t (z00 S)) = 0 := rfl
    have hL1 : zL (zN (S 14) t (z00 S)) = [] := rfl
    have hC := c_X7_readTape G m M0 Q S t h hG hp
    generalize (zN (S 14) t (z00 S)) = z1 at hzi hF hC ho1 hL1
    refine ax_budget (mc' := 5 + 0) (ms' := 333 + 0) (Nat.le_refl _) (Nat.le_refl _) (ax_callV dX11_text_16 lX11_147 (hp.1 9 0 Nat.one_pos).1 (hp.1 9 0 Nat.one_pos).2.1 (hp.2.2.1 9 0 Nat.one_pos) rfl (av := []) rfl rfl (by decide) (Nat.le_of_ble_eq_true rfl) hC (fun r9 h9 hq => ?_))
    obtain ⟨T, hp9, hfr, hf15, hcase⟩ := hq
    have hQT : T 16 0 = nI Q.2.2 := by rw [hfr 16 (by decide)]; exact hQ
    rcases hcase with ⟨hzf, rfl, h62⟩ | ⟨hzf, a, c, e, n, s, x, f, rfl, hN, hx, hff⟩
    · refine ax_astoreN_n1' dX11_text_19 (by decide) rfl ?_
      refine ax_aload_nN dX11_text_20 rfl rfl ?_
      refine ax_ifnonnullN dX11_text_21 ?_
      refine ax_bipush (v := -100) dX11_text_24 (by decide) ?_
      refine ax_aload_n dX11_text_26 rfl rfl ?_
      refine ay_get hp9 (k := 0) (i := 0) (f := 3) dX11_text_27 gX11_25 rfl Nat.one_pos rfl ?_
      refine ay_get hp9 (k := 9) (i := 0) (f := 0) dX11_text_30 gX11_150 rfl Nat.one_pos rfl ?_
      refine ax_isub dX11_text_33 ?_
      refine ax_ireturn dX11_text_34 rfl rfl ?_
      obtain ⟨F, f1, f2, f3, f4⟩ := f_text_bad hF hQ h6 hfr hf15 hzf
      rw [f1]
      exact ⟨(T, Q), hp9, -100 - T 62 0, rfl, by rw [h62], f2, fun _ _ _ => rfl, rfl, f3, h6, Nat.le_refl _, f4⟩
    · have hnN := hN
      obtain ⟨n1, n2, n3, n4, n5, n6, n7⟩ := hN
      have na := n1 a (Or.inl rfl)
      have a12 := hp9.1 12 0 Nat.one_pos
      refine ax_astore_n1' dX11_text_19 (by decide) rfl ?_
      refine ax_aload_n dX11_text_20 rfl rfl ?_
      refine ax_ifnonnull (tgt := 35) dX11_text_21 (by decide) ?_
      refine ax_aload_n dX11_text_35 rfl rfl ?_
      refine ay_get hp9 (k := 0) (i := 0) (f := 4) dX11_text_36 gX11_31 rfl Nat.one_pos rfl ?_
      refine ax_aload_n dX11_text_39 rfl rfl ?_
      refine ay_get hp9 (k := 0) (i := 0) (f := 5) dX11_text_40 gX11_69 rfl Nat.one_pos rfl ?_
      refine ax_aload_n dX11_text_43 rfl rfl ?_
      refine ax_aast (t := 4) (r := RX9) (n := 6) (i := T 16 0) (f := fun q => if q < Q.2.2 then some (Q.1 28 q) else none) (fs := [.ref c, .ref e, .ref s, .ref n]) (ci := 9) dX11_text_44 a12.1 a12.2.1 (hp9.2.2.1 12 0 Nat.one_pos) rfl (by rw [hQT]; exact vp_in_nI l6 (by decide)) na.1 na.2.1 n3 rfl (Or.inl rfl) ?_
      rw [show (T 16 0).toNatClampNeg = Q.2.2 by rw [hQT, nI_clamp (by omega)]]
      have hl160 : (zL (txW (tx S t z1 3).2)).length ≤ 160 := by rw [txW_L]; exact zi_l (tx_g (S := S) hzi ho1 3).1
      obtain ⟨F, f1, f2, f3, f4⟩ := f_text_good hF h1 l6 hzi ho1 hL1 hfr hf15 hzf hx hff
      clear hx hF hC hff
      generalize (zL (txW (tx S t z1 3).2)).length = len at hl160 f2 f4 hnN
      have hpic := text_pic hp9 hnN l6 (by omega) (by rw [hfr 60 (by decide)]; exact h60)
      refine px_C2 (Q := Qx Q a c e n s) (S := Sx T Q.2.2 len x f) ?_ _ hpic
      rw [show Q.1 0 0 = (Qx Q a c e n s).1 0 0 from (Qx_k (Or.inl (by decide))).symm]
      refine text_end G m M0 (Qx Q a c e n s) _ _ (fun x' S' => (fun x p => x = (f_text S).1 ∧ fr (XT Q.2.2) (f_text S).2 p.1 ∧ (∀ k' i', i' < lim Q k' → p.2.1 k' i' = Q.1 k' i') ∧ p.2.2.1 = Q.2.1 ∧ (f_text S).2 16 0 = nI p.2.2.2 ∧ p.2.2.2 ≤ 6 ∧ Q.2.2 ≤ p.2.2.2 ∧ ATN S (f_text S).2 p.1 Q.2.2 p.2.2.2) x' (S', Qx Q a c e n s)) ?_
      have e16 : Sx T Q.2.2 len x f 16 0 = nI Q.2.2 := by rw [Sx_r l6 (Or.inl (by decide))]; exact hQT
      rw [f1, e16, nI_1]
      refine ⟨nIs (by omega), f2, fun k' i' hl => ?_, rfl, f3, l6, Nat.le_succ _, f4⟩
      · refine Qx_ne fun w => ?_
        obtain ⟨w1, w2⟩ := w
        subst w1
        rcases w2 with rfl | rfl | rfl | rfl | rfl <;> exact absurd hl (Nat.lt_irrefl _)
  · skip
    rw [hQ] at H6
    have e6 : Q.2.2 = 6 := by have := ge_n (a := Q.2.2) (b := 6) (by omega) (by omega) H6; omega
    have hF : f_text S = (-4, S) := by rw [f_text, if_pos (by rw [hQ, e6]; rfl)]
    refine ax_bipush (v := (-4)) dX11_text_9 (by decide) ?_
    refine ax_ireturn dX11_text_11 rfl rfl ?_
    exact ⟨(S, Q), hp, -4, rfl, by rw [hF], by rw [hF]; exact fr.rf, fun _ _ _ => rfl, rfl, by rw [hF]; exact hQ, h6, Nat.le_refl _, by rw [hF]; exact fun U u18 u19 u20 u160 uj h => atx_go h h6 (fun k _ => by rw [u18, u19]; exact ⟨rfl, rfl⟩) (fun k _ => by rw [u20]) (fun j hj => by
      have hj : j < Q.2.2 := hj
      rw [u160, (uj j (by omega)).1, (uj j (by omega)).2]; exact ⟨rfl, rfl, rfl⟩)⟩
