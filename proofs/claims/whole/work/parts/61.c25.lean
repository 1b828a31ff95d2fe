/-! THE CLASS: it reads as the pure reader does -/
/-- the class's token -/
def tkZ (z : PZ) : Int32 := if zS z = 1 then (if zV z < 6 then 256 + zV z else 252 + zV z) else if zS z = 2 then 2 else if zS z = 3 then zV z else if zS z = 4 then 0 else 1
theorem tkC_z {tp : Nat → Int32} {t : Nat} {z : PZ} : tkC tp t (zB z) = tkZ (zN tp t z) := by
  have eS : zS (zN tp t z) = lxS tp t (zB z) := rfl
  have eV : zV (zN tp t z) = lxV tp t (zB z) (zV z) := rfl
  unfold tkC tkZ
  rw [eS, eV]
  unfold lxS lxV lxB
  by_cases q : lxA tp t (zB z) < t
  · simp only [if_pos q]
    by_cases ql : ltr tp (lxA tp t (zB z)) = true
    · simp only [if_pos ql]
      rw [tkW_w]
      by_cases qw : wN tp (lxA tp t (zB z)) (rn (ltr tp) t (lxA tp t (zB z))) < 0
      · simp only [if_pos qw]; rfl
      · simp only [if_neg qw]; rfl
    · simp only [if_neg ql]
      by_cases qd : dgt tp (lxA tp t (zB z)) = true
      · simp only [if_pos qd]
        by_cases q4 : 4 < rn (dgt tp) t (lxA tp t (zB z)) - lxA tp t (zB z)
        · simp only [if_pos q4]; rfl
        · simp only [if_neg q4]; rfl
      · simp only [if_neg qd]
        by_cases qs : isSg (tp (lxA tp t (zB z))) = true
        · simp only [if_pos qs]; rfl
        · simp only [if_neg qs]; rfl
  · simp only [if_neg q]; rfl
/-- what the class holds of a reading of S -/
def RY (T : MS) (z : PZ) : Prop := T 62 0 = -1 ∧ T 62 1 = tkZ z ∧ T 62 2 = nI (zA z) ∧ T 62 3 = nI (zB z) ∧ (zS z = 2 → T 62 4 = zV z) ∧ T 62 5 = nI (zO z) ∧ T 62 6 = nI (zL z).length ∧ (∀ (i : Nat) (h : i < (zL z).length), T 63 i = enc (zL z)[i].1 (zL z)[i].2) ∧ WK z
def RN (T : MS) (z : PZ) : Prop := T 62 0 = zF z ∧ T 62 1 = 1 ∧ ∃ k, k ≤ 160 ∧ T 62 6 = nI k
def RDL (S T : MS) (z : PZ) : Prop := fr [62, 63] S T ∧ (zF z < 0 → RY T z) ∧ (¬ zF z < 0 → RN T z)
theorem rl_cg {S T : MS} {z z' : PZ} (e : z = z') (h : RDL S T z) : RDL S T z' := e ▸ h
theorem RDL.fr {S T : MS} {z : PZ} (h : RDL S T z) : fr [62, 63] S T := h.1
theorem tk_key : ∀ j, j < 16 → (j < 6 ∨ 10 ≤ j) → ∀ k, k < 16 → 10 ≤ k → ((if nI j < 6 then 256 + nI j else 252 + nI j) = 252 + nI k ↔ nI j = nI k) := by decide +kernel
theorem tk_ksg : ∀ j, j < 16 → ∀ n, n < 62 → ¬ (if nI j < 6 then 256 + nI j else 252 + nI j) = nI n := by decide +kernel
theorem tk_k2 : ∀ k, k < 16 → 10 ≤ k → ¬ (2 : Int32) = 252 + nI k ∧ ¬ (0 : Int32) = 252 + nI k ∧ ¬ (1 : Int32) = 252 + nI k ∧ ∀ n, n < 62 → ¬ nI n = 252 + nI k := by decide +kernel
theorem sg_n {x : Int32} (h : isSg x = true) : ∃ n, n < 62 ∧ 40 ≤ n ∧ x = nI n := by
  rcases decide_eq_true_iff.mp h with e | e | e | e | e | e | e | e <;> subst e
  · exact ⟨40, by decide, by decide, rfl⟩
  · exact ⟨41, by decide, by decide, rfl⟩
  · exact ⟨59, by decide, by decide, rfl⟩
  · exact ⟨43, by decide, by decide, rfl⟩
  · exact ⟨45, by decide, by decide, rfl⟩
  · exact ⟨42, by decide, by decide, rfl⟩
  · exact ⟨60, by decide, by decide, rfl⟩
  · exact ⟨61, by decide, by decide, rfl⟩
/-- what a token can be -/
theorem WK.cs {z : PZ} (h : WK z) : (zS z = 1 ∧ ∃ j, j < 16 ∧ (j < 6 ∨ 10 ≤ j) ∧ zV z = nI j ∧ tkZ z = (if nI j < 6 then 256 + nI j else 252 + nI j)) ∨ (zS z = 2 ∧ tkZ z = 2) ∨ (zS z = 3 ∧ ∃ n, n < 62 ∧ 40 ≤ n ∧ zV z = nI n ∧ tkZ z = nI n) ∨ (zS z = 4 ∧ tkZ z = 0) ∨ ((zS z = 0 ∨ zS z = 5) ∧ tkZ z = 1) := by
  obtain ⟨h1, h2, h3, h4⟩ := h
  unfold tkZ
  rcases (by omega : zS z = 0 ∨ zS z = 1 ∨ zS z = 2 ∨ zS z = 3 ∨ zS z = 4 ∨ zS z = 5) with e | e | e | e | e | e
  · exact Or.inr (Or.inr (Or.inr (Or.inr ⟨Or.inl e, by simp [e]⟩)))
  · obtain ⟨j, a, b, c⟩ := h1 e
    exact Or.inl ⟨e, j, a, c, b, by rw [if_pos e, b]⟩
  · exact Or.inr (Or.inl ⟨e, by simp [e]⟩)
  · obtain ⟨n, a, b, c⟩ := sg_n (h3 e)
    exact Or.inr (Or.inr (Or.inl ⟨e, n, a, b, c, by simp [e, c]⟩))
  · exact Or.inr (Or.inr (Or.inr (Or.inl ⟨e, by simp [e]⟩)))
  · exact Or.inr (Or.inr (Or.inr (Or.inr ⟨Or.inr e, by simp [e]⟩)))
theorem rl_key {S T : MS} {z : PZ} {k : Nat} (hk : k < 16) (hk2 : 10 ≤ k) (h : RDL S T z) : T 62 1 = 252 + nI k ↔ zKy z (nI k) = true := by
  obtain ⟨n2, n0, n1, ns⟩ := tk_k2 k hk hk2
  by_cases hf : zF z < 0
  · obtain ⟨-, ht, -, -, -, -, -, -, hw⟩ := h.2.1 hf
    rw [ht]
    have eK : zKy z (nI k) = true ↔ zS z = 1 ∧ zV z = nI k := ⟨fun q => (ky_y q).2, fun q => decide_eq_true_iff.mpr ⟨hf, q⟩⟩
    rw [eK]
    rcases hw.cs with ⟨e, j, a, b, c, d⟩ | ⟨e, d⟩ | ⟨e, n, a, b, c, d⟩ | ⟨e, d⟩ | ⟨e, d⟩
    · rw [d, c, tk_key j a b k hk hk2]
      exact ⟨fun q => ⟨e, q⟩, fun q => q.2⟩
    · rw [d]; exact ⟨fun q => absurd q n2, fun q => by omega⟩
    · rw [d]; exact ⟨fun q => absurd q (ns n a), fun q => by omega⟩
    · rw [d]; exact ⟨fun q => absurd q n0, fun q => by omega⟩
    · rw [d]; exact ⟨fun q => absurd q n1, fun q => by omega⟩
  · rw [(h.2.2 hf).2.1]
    exact ⟨fun q => absurd q n1, fun q => absurd q (ky_f hf)⟩
theorem rl_sg {S T : MS} {z : PZ} {x : Int32} (hx : isSg x = true) (h : RDL S T z) : T 62 1 = x ↔ zSg z x = true := by
  obtain ⟨n, hn, hn4, rfl⟩ := sg_n hx
  have f : ∀ a, a ≤ 2 → ¬ nI a = nI n := fun a ha q => by have := eq_n (by omega) (by omega) q; omega
  by_cases hf : zF z < 0
  · obtain ⟨-, ht, -, -, -, -, -, -, hw⟩ := h.2.1 hf
    rw [ht]
    have eK : zSg z (nI n) = true ↔ zS z = 3 ∧ zV z = nI n := ⟨fun q => (sg_y q).2, fun q => decide_eq_true_iff.mpr ⟨hf, q⟩⟩
    rw [eK]
    rcases hw.cs with ⟨e, j, a, b, c, d⟩ | ⟨e, d⟩ | ⟨e, n', a, b, c, d⟩ | ⟨e, d⟩ | ⟨e, d⟩
    · rw [d]; exact ⟨fun q => absurd q (tk_ksg j a n hn), fun q => by omega⟩
    · rw [d]; exact ⟨fun q => absurd q (f 2 (by decide)), fun q => by omega⟩
    · rw [d, c]; exact ⟨fun q => ⟨e, q⟩, fun q => q.2⟩
    · rw [d]; exact ⟨fun q => absurd q (f 0 (by decide)), fun q => by omega⟩
    · rw [d]; exact ⟨fun q => absurd q (f 1 (by decide)), fun q => by omega⟩
  · rw [(h.2.2 hf).2.1]
    exact ⟨fun q => absurd q (f 1 (by decide)), fun q => absurd q (sg_f hf)⟩
theorem rl_num {S T : MS} {z : PZ} (h : RDL S T z) : T 62 1 = 2 ↔ zF z < 0 ∧ zS z = 2 := by
  by_cases hf : zF z < 0
  · obtain ⟨-, ht, -, -, -, -, -, -, hw⟩ := h.2.1 hf
    rw [ht]
    rcases hw.cs with ⟨e, j, a, b, c, d⟩ | ⟨e, d⟩ | ⟨e, n, a, b, c, d⟩ | ⟨e, d⟩ | ⟨e, d⟩
    · rw [d]; exact ⟨fun q => absurd q (tk_ksg j a 2 (by decide)), fun q => by omega⟩
    · rw [d]; exact ⟨fun _ => ⟨hf, e⟩, fun _ => rfl⟩
    · rw [d]; exact ⟨fun q => by have := eq_n (b := 2) (by omega) (by omega) q; omega, fun q => by omega⟩
    · rw [d]; exact ⟨fun q => absurd q (by decide), fun q => by omega⟩
    · rw [d]; exact ⟨fun q => absurd q (by decide), fun q => by omega⟩
  · rw [(h.2.2 hf).2.1]
    exact ⟨fun q => absurd q (by decide), fun q => absurd q.1 hf⟩
theorem rl_end {S T : MS} {z : PZ} (h : RDL S T z) : T 62 1 = 0 ↔ zF z < 0 ∧ zS z = 4 := by
  by_cases hf : zF z < 0
  · obtain ⟨-, ht, -, -, -, -, -, -, hw⟩ := h.2.1 hf
    rw [ht]
    rcases hw.cs with ⟨e, j, a, b, c, d⟩ | ⟨e, d⟩ | ⟨e, n, a, b, c, d⟩ | ⟨e, d⟩ | ⟨e, d⟩
    · rw [d]; exact ⟨fun q => absurd q (tk_ksg j a 0 (by decide)), fun q => by omega⟩
    · rw [d]; exact ⟨fun q => absurd q (by decide), fun q => by omega⟩
    · rw [d]; exact ⟨fun q => by have := eq_n (b := 0) (by omega) (by omega) q; omega, fun q => by omega⟩
    · rw [d]; exact ⟨fun _ => ⟨hf, e⟩, fun _ => rfl⟩
    · rw [d]; exact ⟨fun q => absurd q (by decide), fun q => by omega⟩
  · rw [(h.2.2 hf).2.1]
    exact ⟨fun q => absurd q (by decide), fun q => absurd q.1 hf⟩
theorem tk_nm : ∀ j, j < 16 → (j < 6 ∨ 10 ≤ j) → (mIn (if nI j < 6 then 256 + nI j else 252 + nI j) 256 261 = 0 ↔ ¬ nI j < 6) := by decide +kernel
theorem tk_nmS : ∀ n, n < 62 → mIn (nI n) 256 261 = 0 := by decide +kernel
theorem rl_nam {S T : MS} {z : PZ} (h : RDL S T z) : mIn (T 62 1) 256 261 = 0 ↔ ¬ (zF z < 0 ∧ zS z = 1 ∧ zV z < 6) := by
  by_cases hf : zF z < 0
  · obtain ⟨-, ht, -, -, -, -, -, -, hw⟩ := h.2.1 hf
    rw [ht]
    rcases hw.cs with ⟨e, j, a, b, c, d⟩ | ⟨e, d⟩ | ⟨e, n, a, b, c, d⟩ | ⟨e, d⟩ | ⟨e, d⟩
    · rw [d, tk_nm j a b, c]
      exact ⟨fun q r => q r.2.2, fun q r => q ⟨hf, e, r⟩⟩
    · rw [d]; exact ⟨fun _ q => by omega, fun _ => by decide⟩
    · rw [d]; exact ⟨fun _ q => by omega, fun _ => tk_nmS n a⟩
    · rw [d]; exact ⟨fun _ q => by omega, fun _ => by decide⟩
    · rw [d]; exact ⟨fun _ q => by omega, fun _ => by decide⟩
  · rw [(h.2.2 hf).2.1]
    exact ⟨fun _ q => hf q.1, fun _ => by decide⟩
/-- the class's step reads the next token -/
theorem STP.rl0 {S T T' : MS} {t : Nat} {z : PZ} (hfr : fr [62, 63] S T) (r0 : T 62 0 = -1) (r5 : T 62 5 = nI (zO z)) (r6 : T 62 6 = nI (zL z).length) (r7 : ∀ (i : Nat) (h : i < (zL z).length), T 63 i = enc (zL z)[i].1 (zL z)[i].2) (hf : zF z < 0) (hb : zB z ≤ t) (hp : STP t (zB z) T T') : RDL S T' (zN (S 14) t z) := by
  have e14 : T 14 = S 14 := hfr 14 (by decide)
  obtain ⟨p1, p2, p3, p4, p5, p6, p7, p8⟩ := hp
  rw [e14] at p5 p6 p7 p8
  refine ⟨hfr.tr (p1.mono (fun q hq => by rw [List.mem_singleton] at hq; rw [hq]; exact List.mem_cons_self)), fun _ => ⟨p2.trans r0, p7.trans tkC_z, p5, p6, fun e => ?_, p3.trans r5, p4.trans r6, fun i hi => ?_, zN_k⟩, fun q => absurd hf q⟩
  · have e : lxS (S 14) t (zB z) = 2 := e
    show T' 62 4 = lxV (S 14) t (zB z) (zV z)
    unfold lxS at e
    unfold lxV
    by_cases q : lxA (S 14) t (zB z) < t
    · rw [if_pos q] at e ⊢
      by_cases ql : ltr (S 14) (lxA (S 14) t (zB z)) = true
      · rw [if_pos ql] at e
        split at e <;> omega
      · rw [if_neg ql] at e ⊢
        by_cases qd : dgt (S 14) (lxA (S 14) t (zB z)) = true
        · rw [if_pos qd] at e ⊢
          have eB : lxB (S 14) t (zB z) = rn (dgt (S 14)) t (lxA (S 14) t (zB z)) := by rw [lxB, if_pos q, if_neg ql, if_pos qd]
          have q4 : ¬ 4 < rn (dgt (S 14)) t (lxA (S 14) t (zB z)) - lxA (S 14) t (zB z) := fun q4 => by rw [if_pos q4] at e; omega
          rw [p8 q (by simpa using ql) qd, eB, cnv_nv _ (by omega)]
        · rw [if_neg qd] at e
          split at e <;> omega
    · rw [if_neg q] at e
      omega
  · rw [p1 63 (by decide)]
    exact r7 i hi
theorem STP.rl {S T T' : MS} {t : Nat} {z : PZ} (h : RDL S T z) (hf : zF z < 0) (hb : zB z ≤ t) (hp : STP t (zB z) T T') : RDL S T' (zN (S 14) t z) := by
  obtain ⟨r0, r1, r2, r3, r4, r5, r6, r7, r8⟩ := h.2.1 hf
  exact STP.rl0 h.1 r0 r5 r6 r7 hf hb hp
section Rl
variable (G : Gt) (m : Nat → Prop) (M0 : Nat → va_E) (Q : Qt) (S T : MS) (z : PZ) (t : Nat)
/-- what stays: the tape -/
def TP (G : Gt) (S : MS) (t : Nat) : Prop := CKI G ∧ S 15 0 = nI t ∧ t ≤ 160 ∧ ∀ i, (S 14 i).toInt8.toInt32 = S 14 i
theorem r_step (hG : TP G S t) (h : RDL S T z) (hf : zF z < 0) (hb : zB z ≤ t) : PC G (CPic G m M0 Q) 7 Y7_step [.ref (Q.1 9 0)] T 0 0 (rv (fun T' => RDL S T' (zN (S 14) t z))) := by
  obtain ⟨g1, g2, g3, g4⟩ := hG
  have e14 : T 14 = S 14 := h.1 14 (by decide)
  have e15 : T 15 = S 15 := h.1 15 (by decide)
  intro h0 hp
  refine cx_post (fun r h' ⟨S', a, b⟩ => ⟨S', a, b.1, b.2.rl h hf hb⟩) (c_X7_step G m M0 Q T t (zB z) g1 (h.2.1 hf).2.2.2.1 (by rw [e15]; exact g2) hb g3 (by rw [e14]; exact g4) h0 hp)
theorem r_fail (h : RDL S T z) (hz : zF z < 0 → Zi t z) : PC G (CPic G m M0 Q) 1 Y7_fail [.ref (Q.1 9 0)] T 0 0 (rv (fun T' => RDL S T' (zW z))) := by
  intro h0 hp
  refine cx_post (fun r h' ⟨S', a, b⟩ => ⟨S', a, b.1, ?_⟩) (c_X7_fail G m M0 Q T h0 hp)
  have e := b.2
  by_cases hf : zF z < 0
  · have hz := hz hf
    obtain ⟨r0, r1, r2, r3, r4, r5, r6, r7, r8⟩ := h.2.1 hf
    rw [if_pos r0] at e
    subst e
    refine ⟨(h.1.up List.mem_cons_self).up List.mem_cons_self, fun q => absurd q (zW_f hz), fun _ => ⟨?_, u2s, (zL z).length, ?_, ?_⟩⟩
    · rw [show zF (zW z) = if zF z < 0 then nI (zA z) else zF z from rfl, if_pos hf]
      simp [up2, upd, r2]
    · have := hz.1; have := hz.2.1; have := hz.2.2.1; have := hz.2.2.2.1; omega
    · simp [up2, upd, r6]
  · obtain ⟨r0, r1, k, hk, r2⟩ := h.2.2 hf
    rw [if_neg (fun q => by rw [r0] at q; exact hf (by rw [q]; decide))] at e
    subst e
    rw [zW_x z hf]
    exact ⟨h.1.up List.mem_cons_self, fun q => absurd q hf, fun _ => ⟨by simp [up2, upd, r0], u2s, k, hk, by simp [up2, upd, r2]⟩⟩
theorem r_emit (c : Int32 × Int32) (v : Int32) (hv : zF z < 0 → v = enc c.1 c.2) (h : RDL S T z) (hl : zF z < 0 → (zL z).length < 160) : PC G (CPic G m M0 Q) 1 Y7_emit [.ref (Q.1 9 0), .int v] T 0 0 (rv (fun T' => RDL S T' (zAd z c))) := by
  have f1 : zF (zAd z c) = zF z := rfl
  by_cases hf : zF z < 0
  · obtain ⟨r0, r1, r2, r3, r4, r5, r6, r7, r8⟩ := h.2.1 hf
    have hl := hl hf
    have hv := hv hf
    intro h0 hp
    refine cx_post (fun r h' ⟨S', a, b⟩ => ⟨S', a, b.1, ?_⟩) (c_X7_emit G m M0 Q T v (zL z).length r6 (by omega) h0 hp)
    have e := b.2
    rw [if_pos hl] at e
    subst e
    refine ⟨(h.1.up (List.mem_cons_of_mem _ List.mem_cons_self)).up List.mem_cons_self, fun _ => ⟨?_, ?_, ?_, ?_, fun q => ?_, ?_, ?_, fun i hi => ?_, r8⟩, fun q => absurd hf q⟩
    · simp [up2, upd, r0]
    · simp [up2, upd, r1]; rfl
    · simp [up2, upd, r2]; rfl
    · simp [up2, upd, r3]; rfl
    · have := r4 q; simp [up2, upd, this]; rfl
    · simp [up2, upd, r5]; rfl
    · rw [zAd_l, u2s]
    · have e63 : up2 (up2 T 63 (zL z).length v) 62 6 (nI ((zL z).length + 1)) 63 i = upd (T 63) (zL z).length v i := rfl
      have eL : zL (zAd z c) = zL z ++ [c] := rfl
      rw [e63]
      simp only [eL] at hi ⊢
      rw [List.length_append, List.length_singleton] at hi
      by_cases e : i = (zL z).length
      · subst e
        rw [pk_us, List.getElem_append_right (Nat.le_refl _)]
        simp [hv]
      · rw [pk_un e, List.getElem_append_left (by omega)]
        exact r7 i (by omega)
  · obtain ⟨r0, r1, k, hk, r2⟩ := h.2.2 hf
    intro h0 hp
    refine cx_post (fun r h' ⟨S', a, b⟩ => ⟨S', a, b.1, ?_⟩) (c_X7_emit G m M0 Q T v k r2 hk h0 hp)
    have e := b.2
    by_cases q : k < 160
    · rw [if_pos q] at e
      subst e
      exact ⟨(h.1.up (List.mem_cons_of_mem _ List.mem_cons_self)).up List.mem_cons_self, fun q => absurd q hf, fun _ => ⟨by simp [up2, upd, r0]; rfl, by simp [up2, upd, r1], k + 1, by omega, u2s⟩⟩
    · rw [if_neg q] at e
      subst e
      exact ⟨h.1, fun q => absurd q hf, fun _ => ⟨r0, r1, k, hk, r2⟩⟩
theorem r_open (h : RDL S T z) {x : Int32} (hx : zF z < 0 → 1 ≤ zO z) (hm : x = T 62 5 - 1) : RDL S (up2 T 62 5 x) (zD z) := by
  subst hm
  have f1 : zF (zD z) = zF z := rfl
  refine ⟨h.1.up List.mem_cons_self, fun hf => ?_, fun hf => ?_⟩
  · obtain ⟨r0, r1, r2, r3, r4, r5, r6, r7, r8⟩ := h.2.1 hf
    exact ⟨by simp [up2, upd, r0], by simp [up2, upd, r1]; rfl, by simp [up2, upd, r2]; rfl, by simp [up2, upd, r3]; rfl, fun q => by have := r4 q; simp [up2, upd, this]; rfl, by rw [u2s, r5, nIs (hx hf)]; rfl, by simp [up2, upd, r6]; rfl, fun i hi => r7 i hi, r8⟩
  · obtain ⟨r0, r1, k, hk, r2⟩ := h.2.2 hf
    exact ⟨by simp [up2, upd, r0]; rfl, by simp [up2, upd, r1], k, hk, by simp [up2, upd, r2]⟩
theorem zND {tp : Nat → Int32} : zN tp t (zD z) = zD (zN tp t z) := rfl
end Rl
set_option maxHeartbeats 400000 in
set_option maxRecDepth 100000 in
theorem c_X7_accept (G : Gt) (m : Nat → Prop) (M0 : Nat → va_E) (Q : Qt) (S : MS) (S0 : MS) (t : Nat) (z : PZ) (w : Int32) (b : Bool) (hG : TP G S0 t) (hR : RDL S0 S z) (hb : S 62 1 = w ↔ b = true) (hf : b = true → zF z < 0) (hB : zB z ≤ t) : PC G (CPic G m M0 Q) 8 Y7_accept [.ref (Q.1 9 0), .int w] S 0 0 (ri (fun y S' => y = bI b ∧ RDL S0 S' (if b = true then zN (S0 14) t z else z))) := by
  refine pc_of (ls := [some (.ref (Q.1 9 0)), some (.int w)]) (by decide +kernel) rfl (Nat.le_of_ble_eq_true rfl) ?_
  refine px_aload_n dX7_accept_0 rfl rfl ?_
  refine cx_get (k := 9) (i := 0) (f := 3) dX7_accept_1 gX7_45 rfl Nat.one_pos rfl ?_
  refine px_iload_n dX7_accept_4 rfl rfl ?_
  refine px_icmp_eq (tgt := 10) dX7_accept_5 (by decide) (fun H5 => ?_) (fun H5 => ?_)
  · skip
    have hB1 := hb.mp H5
    have hF1 := hf hB1
    refine px_aload_n dX7_accept_10 rfl rfl ?_
    refine cx_callV0 (k := 9) (i := 0) dX7_accept_11 lX7_35 rfl Nat.one_pos rfl (r_step G m M0 Q S0 S z t hG hR hF1 hB) (by decide) (Nat.le_of_ble_eq_true rfl) (fun S11 Q11 => ?_)
    skip
    refine px_iconst (v := 1) dX7_accept_14 (by decide) ?_
    refine px_iretZ dX7_accept_15 rfl (by first | rfl | decide) ?_
    exact ⟨by unfold bI; rw [if_pos hB1], by rw [if_pos hB1]; exact Q11⟩
  · skip
    have hB0 : ¬ b = true := fun q => H5 (hb.mpr q)
    refine px_iconst (v := 0) dX7_accept_8 (by decide) ?_
    refine px_iretZ dX7_accept_9 rfl (by first | rfl | decide) ?_
    exact ⟨by unfold bI; rw [if_neg hB0], by rw [if_neg hB0]; exact hR⟩
set_option maxHeartbeats 400000 in
set_option maxRecDepth 100000 in
theorem c_X7_need (G : Gt) (m : Nat → Prop) (M0 : Nat → va_E) (Q : Qt) (S : MS) (S0 : MS) (t : Nat) (z : PZ) (w : Int32) (b : Bool) (hG : TP G S0 t) (hR : RDL S0 S z) (hb : S 62 1 = w ↔ b = true) (hf : b = true → zF z < 0) (hz : Zi t z) : PC G (CPic G m M0 Q) 9 Y7_need [.ref (Q.1 9 0), .int w] S 0 0 (rv (fun S' => RDL S0 S' (if b = true then zN (S0 14) t z else zW z))) := by
  refine pc_of (ls := [some (.ref (Q.1 9 0)), some (.int w)]) (by decide +kernel) rfl (Nat.le_of_ble_eq_true rfl) ?_
  refine px_aload_n dX7_need_0 rfl rfl ?_
  refine px_iload_n dX7_need_1 rfl rfl ?_
  refine cx_callI1 (k := 9) (i := 0) dX7_need_2 lX7_65 rfl Nat.one_pos rfl (c_X7_accept G m M0 Q S S0 t z w b hG hR hb hf hz.2.1) (by decide) (Nat.le_of_ble_eq_true rfl) (fun x2 S2 Q2 => ?_)
  obtain ⟨rfl, R2⟩ := Q2
  refine px_if_ne (tgt := 12) dX7_need_5 (by decide) (fun H5 => ?_) (fun H5 => ?_)
  · skip
    rw [bI_0] at H5
    have H5 := Decidable.not_not.mp H5
    rw [if_pos H5] at R2
    refine px_return dX7_need_12 rfl ?_
    first | (rw [if_neg H5]; exact Q9) | (rw [if_pos H5]; exact R2)
  · skip
    rw [bI_0] at H5
    rw [if_neg H5] at R2
    refine px_aload_n dX7_need_8 rfl rfl ?_
    refine cx_callV0 (k := 9) (i := 0) dX7_need_9 lX7_48 rfl Nat.one_pos rfl (r_fail G m M0 Q S0 S2 z t R2 (fun _ => hz)) (by decide) (Nat.le_of_ble_eq_true rfl) (fun S9 Q9 => ?_)
    skip
    refine px_return dX7_need_12 rfl ?_
    first | (rw [if_neg H5]; exact Q9) | (rw [if_pos H5]; exact R2)
set_option maxHeartbeats 400000 in
set_option maxRecDepth 100000 in
theorem c_X7_opened (G : Gt) (m : Nat → Prop) (M0 : Nat → va_E) (Q : Qt) (S : MS) (S0 : MS) (t : Nat) (z : PZ) (hG : TP G S0 t) (hR : RDL S0 S z) (hf : zF z < 0) (hz : Zi t z) : PC G (CPic G m M0 Q) 8 Y7_opened [.ref (Q.1 9 0)] S 0 0 (ri (fun y S' => y = bI (decide (¬ zO z = 5)) ∧ RDL S0 S' (zOp (S0 14) t z))) := by
  obtain ⟨r0, r1, r2, r3, r4, r5, r6, r7, r8⟩ := hR.2.1 hf
  have ho := hz.2.2.2.2.2.2 hf
  refine pc_of (ls := [some (.ref (Q.1 9 0))]) (by decide +kernel) rfl (Nat.le_of_ble_eq_true rfl) ?_
  refine px_aload_n dX7_opened_0 rfl rfl ?_
  refine cx_get (k := 9) (i := 0) (f := 7) dX7_opened_1 gX7_29 rfl Nat.one_pos rfl ?_
  refine px_iconst (v := 5) dX7_opened_4 (by decide) ?_
  refine px_icmp_lt (tgt := 14) dX7_opened_5 (by decide) (fun H5 => ?_) (fun H5 => ?_)
  · skip
    rw [r5] at H5
    have l5 : ¬ zO z = 5 := by have := lt_n (a := zO z) (b := 5) (by omega) (by omega) H5; omega
    refine px_aload_n dX7_opened_14 rfl rfl ?_
    refine px_dup dX7_opened_15 rfl ?_
    refine cx_get (k := 9) (i := 0) (f := 7) dX7_opened_16 gX7_29 rfl Nat.one_pos rfl ?_
    refine px_iconst (v := 1) dX7_opened_19 (by decide) ?_
    refine px_iadd dX7_opened_20 ?_
    refine cx_put (k := 9) (i := 0) (f := 7) (r := 62) (j := 5) dX7_opened_21 gX7_29 rfl Nat.one_pos (Nat.le_of_ble_eq_true rfl) (by decide) rfl (cpe_9_7 0 _) rfl rfl ?_
    refine px_aload_n dX7_opened_24 rfl rfl ?_
    refine cx_callV0 (k := 9) (i := 0) dX7_opened_25 lX7_35 rfl Nat.one_pos rfl (r_step G m M0 Q S0 (up2 S 62 5 (S 62 5 + 1)) (zI z) t hG ⟨hR.1.up List.mem_cons_self, fun _ => ⟨by simp [up2, upd, r0], by simp [up2, upd, r1]; rfl, by simp [up2, upd, r2]; rfl, by simp [up2, upd, r3]; rfl, fun q => by have := r4 q; simp [up2, upd, this]; rfl, by rw [u2s, r5, nI_1]; rfl, by simp [up2, upd, r6]; rfl, fun i hi => r7 i hi, r8⟩, fun q => absurd hf q⟩ hf hz.2.1) (by decide) (Nat.le_of_ble_eq_true rfl) (fun S25 Q25 => ?_)
    skip
    refine px_iconst (v := 1) dX7_opened_28 (by decide) ?_
    refine px_iretZ dX7_opened_29 rfl (by first | rfl | decide) ?_
    exact ⟨by simp [bI, l5], by rw [zOp, if_neg l5]; exact Q25⟩
  · skip
    rw [r5] at H5
    have e5 : zO z = 5 := by have := ge_n (a := zO z) (b := 5) (by omega) (by omega) H5; omega
    refine px_aload_n dX7_opened_8 rfl rfl ?_
    refine cx_callV0 (k := 9) (i := 0) dX7_opened_9 lX7_48 rfl Nat.one_pos rfl (r_fail G m M0 Q S0 S z t hR (fun _ => hz)) (by decide) (Nat.le_of_ble_eq_true rfl) (fun S9 Q9 => ?_)
    skip
    refine px_iconst (v := 0) dX7_opened_12 (by decide) ?_
    refine px_iretZ dX7_opened_13 rfl (by first | rfl | decide) ?_
    exact ⟨by rw [e5]; rfl, by rw [zOp, if_pos e5]; exact Q9⟩
def CC (G : Gt) (m : Nat → Prop) (M0 : Nat → va_E) (Q : Qt) (S : MS) (t n d : Nat) (Y : Yt) (F : PZ → PZ) : Prop := ∀ (z : PZ) (T : MS), RDL S T z → Zi t z → (zF z < 0 → 6 ≤ zO z + n) → PC G (CPic G m M0 Q) d Y [.ref (Q.1 9 0)] T 0 0 (rv (fun T' => RDL S T' (F z)))
def CR (G : Gt) (m : Nat → Prop) (M0 : Nat → va_E) (Q : Qt) (S : MS) (t n d : Nat) (Y : Yt) (F : PZ → PZ) : Prop := ∀ (z : PZ) (T : MS), RDL S T z → Zi t z → zF z < 0 → 6 ≤ zO z + n → PC G (CPic G m M0 Q) d Y [.ref (Q.1 9 0)] T 0 0 (rv (fun T' => RDL S T' (F z)))
theorem zi_160 {t : Nat} {z : PZ} (hz : Zi t z) (hs : zS z = 1 ∨ zS z = 2 ∨ zS z = 3) : zA z < 160 := by have := hz.2.2.2.2.1 hs; have := hz.2.1; have := hz.2.2.1; omega
theorem zi_len {t : Nat} {z : PZ} (hz : Zi t z) (hs : zS z = 1 ∨ zS z = 2 ∨ zS z = 3) : (zL z).length < 160 := by have := zi_160 hz hs; have := hz.2.2.2.1; omega
theorem zi_l {t : Nat} {z : PZ} (hz : Zi t z) : (zL z).length ≤ 160 := by have := hz.1; have := hz.2.1; have := hz.2.2.1; have := hz.2.2.2.1; omega
set_option maxHeartbeats 400000 in
set_option maxRecDepth 100000 in
theorem lp_readTerm (G : Gt) (m : Nat → Prop) (M0 : Nat → va_E) (Q : Qt) (S : MS) (t n d : Nat) (F : PZ → PZ) (hG : TP G S t) (hd : 9 ≤ d) (hF : FOK t n F) (hO : CC G m M0 Q S t n d Y7_readOne (F)) : ∀ (kk i : Nat) (z : PZ) (T : MS), RDL S T z → Zi t z → (zF z < 0 → 6 ≤ zO z + n) → i ≤ zA z → 161 ≤ zA z + kk → PX G (CPic G m M0 Q) (d + 1) Y7_readTerm 6 [some (.ref (Q.1 9 0)), some (.int (nI i))] [] T 0 0 (rv (fun S' => RDL S S' (whl kk (fun z => zSg z 42) (fun z => zAd ((F) (zN (S 14) t z)) (42, 0)) z))) := by
  intro kk
  induction kk with
  | zero => intro i z T hR hz hn hiz hk; have := hz.1; have := hz.2.1; have := hz.2.2.1; omega
  | succ kk ih =>
    intro i z T hR hz hn hiz hk
    have hA := hz.1; have hB := hz.2.1; have hC := hz.2.2.1
    refine px_iload_n dX7_readTerm_6 rfl rfl ?_
    refine px_sipush (v := 160) dX7_readTerm_7 (by decide) ?_
    refine px_icmp_ge (tgt := 38) dX7_readTerm_10 (by decide) (fun H10 => ?_) (fun H10 => ?_)
    · skip
      have i5 : 160 ≤ i := ge_n (a := i) (b := 160) (by omega) (by omega) H10
      have hc : ¬ zSg z 42 = true := fun q => by have := zi_160 hz ((Or.inr (Or.inr (sg_y q).2.1))); omega
      have R9 := hR
      refine px_return dX7_readTerm_38 rfl ?_
      exact rl_cg (by rw [whl, if_neg hc]) R9
    · skip
      have i5 : i < 160 := lt_n (a := i) (b := 160) (by omega) (by omega) H10
      refine px_aload_n dX7_readTerm_13 rfl rfl ?_
      refine px_bipush (v := 42) dX7_readTerm_14 (by decide) ?_
      refine cx_callI1 (k := 9) (i := 0) dX7_readTerm_16 lX7_65 rfl Nat.one_pos rfl (c_X7_accept G m M0 Q T S t z 42 (zSg z 42) hG hR (rl_sg (by decide) hR) (fun q => (sg_y q).1) hz.2.1) (by omega) (Nat.le_of_ble_eq_true rfl) (fun x16 S16 Q16 => ?_)
      obtain ⟨rfl, R16⟩ := Q16
      refine px_if_eq (tgt := 38) dX7_readTerm_19 (by decide) (fun H19 => ?_) (fun H19 => ?_)
      · skip
        rw [bI_0] at H19
        have hc := H19
        rw [if_neg hc] at R16
        have R9 := R16
        refine px_return dX7_readTerm_38 rfl ?_
        exact rl_cg (by rw [whl, if_neg hc]) R9
      · skip
        rw [bI_0] at H19
        have hc := Decidable.not_not.mp H19
        rw [if_pos hc] at R16
        obtain ⟨q1, q2, q3, q4⟩ := turn_g (tp := S 14) (c := (42, 0)) hF hz hn ((Or.inr (Or.inr (sg_y hc).2.1)))
        refine px_aload_n dX7_readTerm_22 rfl rfl ?_
        refine cx_callV0 (k := 9) (i := 0) dX7_readTerm_23 lX7_85 rfl Nat.one_pos rfl (hO (zN (S 14) t z) S16 R16 (zN_i hz) hn) (by omega) (Nat.le_of_ble_eq_true rfl) (fun S23 Q23 => ?_)
        skip
        refine px_aload_n dX7_readTerm_26 rfl rfl ?_
        refine px_bipush (v := (-12)) dX7_readTerm_27 (by decide) ?_
        refine cx_callV1 (k := 9) (i := 0) dX7_readTerm_29 lX7_69 rfl Nat.one_pos rfl (r_emit G m M0 Q S S23 ((F) (zN (S 14) t z)) (42, 0) (-12) (fun _ => rfl) Q23 (fun _ => by have := q1.1.1; have := q1.1.2.1; have := q1.1.2.2.1; omega)) (by omega) (Nat.le_of_ble_eq_true rfl) (fun S29 Q29 => ?_)
        skip
        refine px_iinc_1 (v := 1) dX7_readTerm_32 (by decide) (by decide) rfl ?_
        refine px_goto (tgt := 6) dX7_readTerm_35 (by decide) ?_
        rw [show whl (kk + 1) (fun z => zSg z 42) (fun z => zAd ((F) (zN (S 14) t z)) (42, 0)) z = whl kk (fun z => zSg z 42) (fun z => zAd ((F) (zN (S 14) t z)) (42, 0)) ((fun z => zAd ((F) (zN (S 14) t z)) (42, 0)) z) from by rw [whl, if_pos hc]]
        rw [nI_1]
        exact ih (i + 1) _ S29 Q29 q3.1 (q3.n hn) (Nat.le_trans (Nat.succ_le_succ hiz) q4) (show 161 ≤ zA (zAd ((F) (zN (S 14) t z)) (42, 0)) + kk from by omega)
set_option maxHeartbeats 400000 in
set_option maxRecDepth 100000 in
theorem r_readTerm (G : Gt) (m : Nat → Prop) (M0 : Nat → va_E) (Q : Qt) (S : MS) (t n d : Nat) (F : PZ → PZ) (hG : TP G S t) (hd : 9 ≤ d) (hF : FOK t n F) (hO : CC G m M0 Q S t n d Y7_readOne (F)) : CC G m M0 Q S t n (d + 1) Y7_readTerm (zTerm (S 14) t F) := by
  intro z T hR hz hn
  show PC G (CPic G m M0 Q) (d + 1) Y7_readTerm [.ref (Q.1 9 0)] T 0 0 (rv (fun S' => RDL S S' (zTerm (S 14) t F z)))
  refine pc_of (ls := [some (.ref (Q.1 9 0)), none]) (by decide +kernel) rfl (Nat.le_of_ble_eq_true rfl) ?_
  refine px_aload_n dX7_readTerm_0 rfl rfl ?_
  refine cx_callV0 (k := 9) (i := 0) dX7_readTerm_1 lX7_85 rfl Nat.one_pos rfl (hO z T hR hz hn) (by omega) (Nat.le_of_ble_eq_true rfl) (fun S1 Q1 => ?_)
  skip
  refine px_iconst (v := 0) dX7_readTerm_4 (by decide) ?_
  refine px_istore_n1 dX7_readTerm_5 (by decide) rfl ?_
  exact px_lw (ls' := [some (.ref (Q.1 9 0)), some (.int (nI 0))]) (by simp [LW] <;> rfl) (lp_readTerm G m M0 Q S t n d F hG hd hF hO 161 0 _ S1 Q1 (hF z hz hn).1 ((hF z hz hn).n hn) (Nat.zero_le _) (by omega))
set_option maxHeartbeats 400000 in
set_option maxRecDepth 100000 in
theorem lp_readAnd (G : Gt) (m : Nat → Prop) (M0 : Nat → va_E) (Q : Qt) (S : MS) (t n d : Nat) (F : PZ → PZ) (hG : TP G S t) (hd : 9 ≤ d) (hF : FOK t n F) (hO : CC G m M0 Q S t n d Y7_readNot (F)) : ∀ (kk i : Nat) (z : PZ) (T : MS), RDL S T z → Zi t z → (zF z < 0 → 6 ≤ zO z + n) → i ≤ zA z → 161 ≤ zA z + kk → PX G (CPic G m M0 Q) (d + 1) Y7_readAnd 6 [some (.ref (Q.1 9 0)), some (.int (nI i))] [] T 0 0 (rv (fun S' => RDL S S' (whl kk (fun z => zKy z 14) (fun z => zAd ((F) (zN (S 14) t z)) (6, 0)) z))) := by
  intro kk
  induction kk with
  | zero => intro i z T hR hz hn hiz hk; have := hz.1; have := hz.2.1; have := hz.2.2.1; omega
  | succ kk ih =>
    intro i z T hR hz hn hiz hk
    have hA := hz.1; have hB := hz.2.1; have hC := hz.2.2.1
    refine px_iload_n dX7_readAnd_6 rfl rfl ?_
    refine px_sipush (v := 160) dX7_readAnd_7 (by decide) ?_
    refine px_icmp_ge (tgt := 39) dX7_readAnd_10 (by decide) (fun H10 => ?_) (fun H10 => ?_)
    · skip
      have i5 : 160 ≤ i := ge_n (a := i) (b := 160) (by omega) (by omega) H10
      have hc : ¬ zKy z 14 = true := fun q => by have := zi_160 hz ((Or.inl (ky_y q).2.1)); omega
      have R9 := hR
      refine px_return dX7_readAnd_39 rfl ?_
      exact rl_cg (by rw [whl, if_neg hc]) R9
    · skip
      have i5 : i < 160 := lt_n (a := i) (b := 160) (by omega) (by omega) H10
      refine px_aload_n dX7_readAnd_13 rfl rfl ?_
      refine px_sipush (v := 266) dX7_readAnd_14 (by decide) ?_
      refine cx_callI1 (k := 9) (i := 0) dX7_readAnd_17 lX7_65 rfl Nat.one_pos rfl (c_X7_accept G m M0 Q T S t z 266 (zKy z 14) hG hR (rl_key (k := 14) (by decide) (by decide) hR) (fun q => (ky_y q).1) hz.2.1) (by omega) (Nat.le_of_ble_eq_true rfl) (fun x17 S17 Q17 => ?_)
      obtain ⟨rfl, R17⟩ := Q17
      refine px_if_eq (tgt := 39) dX7_readAnd_20 (by decide) (fun H20 => ?_) (fun H20 => ?_)
      · skip
        rw [bI_0] at H20
        have hc := H20
        rw [if_neg hc] at R17
        have R9 := R17
        refine px_return dX7_readAnd_39 rfl ?_
        exact rl_cg (by rw [whl, if_neg hc]) R9
      · skip
        rw [bI_0] at H20
        have hc := Decidable.not_not.mp H20
        rw [if_pos hc] at R17
        obtain ⟨q1, q2, q3, q4⟩ := turn_g (tp := S 14) (c := (6, 0)) hF hz hn ((Or.inl (ky_y hc).2.1))
        refine px_aload_n dX7_readAnd_23 rfl rfl ?_
        refine cx_callV0 (k := 9) (i := 0) dX7_readAnd_24 lX7_72 rfl Nat.one_pos rfl (hO (zN (S 14) t z) S17 R17 (zN_i hz) hn) (by omega) (Nat.le_of_ble_eq_true rfl) (fun S24 Q24 => ?_)
        skip
        refine px_aload_n dX7_readAnd_27 rfl rfl ?_
        refine px_bipush (v := (-17)) dX7_readAnd_28 (by decide) ?_
        refine cx_callV1 (k := 9) (i := 0) dX7_readAnd_30 lX7_69 rfl Nat.one_pos rfl (r_emit G m M0 Q S S24 ((F) (zN (S 14) t z)) (6, 0) (-17) (fun _ => rfl) Q24 (fun _ => by have := q1.1.1; have := q1.1.2.1; have := q1.1.2.2.1; omega)) (by omega) (Nat.le_of_ble_eq_true rfl) (fun S30 Q30 => ?_)
        skip
        refine px_iinc_1 (v := 1) dX7_readAnd_33 (by decide) (by decide) rfl ?_
        refine px_goto (tgt := 6) dX7_readAnd_36 (by decide) ?_
        rw [show whl (kk + 1) (fun z => zKy z 14) (fun z => zAd ((F) (zN (S 14) t z)) (6, 0)) z = whl kk (fun z => zKy z 14) (fun z => zAd ((F) (zN (S 14) t z)) (6, 0)) ((fun z => zAd ((F) (zN (S 14) t z)) (6, 0)) z) from by rw [whl, if_pos hc]]
        rw [nI_1]
        exact ih (i + 1) _ S30 Q30 q3.1 (q3.n hn) (Nat.le_trans (Nat.succ_le_succ hiz) q4) (show 161 ≤ zA (zAd ((F) (zN (S 14) t z)) (6, 0)) + kk from by omega)
set_option maxHeartbeats 400000 in
set_option maxRecDepth 100000 in
theorem r_readAnd (G : Gt) (m : Nat → Prop) (M0 : Nat → va_E) (Q : Qt) (S : MS) (t n d : Nat) (F : PZ → PZ) (hG : TP G S t) (hd : 9 ≤ d) (hF : FOK t n F) (hO : CC G m M0 Q S t n d Y7_readNot (F)) : CC G m M0 Q S t n (d + 1) Y7_readAnd (zAll (S 14) t F) := by
  intro z T hR hz hn
  show PC G (CPic G m M0 Q) (d + 1) Y7_readAnd [.ref (Q.1 9 0)] T 0 0 (rv (fun S' => RDL S S' (zAll (S 14) t F z)))
  refine pc_of (ls := [some (.ref (Q.1 9 0)), none]) (by decide +kernel) rfl (Nat.le_of_ble_eq_true rfl) ?_
  refine px_aload_n dX7_readAnd_0 rfl rfl ?_
  refine cx_callV0 (k := 9) (i := 0) dX7_readAnd_1 lX7_72 rfl Nat.one_pos rfl (hO z T hR hz hn) (by omega) (Nat.le_of_ble_eq_true rfl) (fun S1 Q1 => ?_)
  skip
  refine px_iconst (v := 0) dX7_readAnd_4 (by decide) ?_
  refine px_istore_n1 dX7_readAnd_5 (by decide) rfl ?_
  exact px_lw (ls' := [some (.ref (Q.1 9 0)), some (.int (nI 0))]) (by simp [LW] <;> rfl) (lp_readAnd G m M0 Q S t n d F hG hd hF hO 161 0 _ S1 Q1 (hF z hz hn).1 ((hF z hz hn).n hn) (Nat.zero_le _) (by omega))
set_option maxHeartbeats 400000 in
set_option maxRecDepth 100000 in
theorem lp_readE (G : Gt) (m : Nat → Prop) (M0 : Nat → va_E) (Q : Qt) (S : MS) (t n d : Nat) (F : PZ → PZ) (hG : TP G S t) (hd : 9 ≤ d) (hF : FOK t n F) (hO : CC G m M0 Q S t n d Y7_readAnd (zAll (S 14) t F)) : ∀ (kk i : Nat) (z : PZ) (T : MS), RDL S T z → Zi t z → (zF z < 0 → 6 ≤ zO z + n) → i ≤ zA z → 161 ≤ zA z + kk → PX G (CPic G m M0 Q) (d + 1) Y7_readE 6 [some (.ref (Q.1 9 0)), some (.int (nI i))] [] T 0 0 (rv (fun S' => RDL S S' (whl kk (fun z => zKy z 13) (fun z => zAd ((zAll (S 14) t F) (zN (S 14) t z)) (5, 0)) z))) := by
  intro kk
  induction kk with
  | zero => intro i z T hR hz hn hiz hk; have := hz.1; have := hz.2.1; have := hz.2.2.1; omega
  | succ kk ih =>
    intro i z T hR hz hn hiz hk
    have hA := hz.1; have hB := hz.2.1; have hC := hz.2.2.1
    refine px_iload_n dX7_readE_6 rfl rfl ?_
    refine px_sipush (v := 160) dX7_readE_7 (by decide) ?_
    refine px_icmp_ge (tgt := 39) dX7_readE_10 (by decide) (fun H10 => ?_) (fun H10 => ?_)
    · skip
      have i5 : 160 ≤ i := ge_n (a := i) (b := 160) (by omega) (by omega) H10
      have hc : ¬ zKy z 13 = true := fun q => by have := zi_160 hz ((Or.inl (ky_y q).2.1)); omega
      have R9 := hR
      refine px_return dX7_readE_39 rfl ?_
      exact rl_cg (by rw [whl, if_neg hc]) R9
    · skip
      have i5 : i < 160 := lt_n (a := i) (b := 160) (by omega) (by omega) H10
      refine px_aload_n dX7_readE_13 rfl rfl ?_
      refine px_sipush (v := 265) dX7_readE_14 (by decide) ?_
      refine cx_callI1 (k := 9) (i := 0) dX7_readE_17 lX7_65 rfl Nat.one_pos rfl (c_X7_accept G m M0 Q T S t z 265 (zKy z 13) hG hR (rl_key (k := 13) (by decide) (by decide) hR) (fun q => (ky_y q).1) hz.2.1) (by omega) (Nat.le_of_ble_eq_true rfl) (fun x17 S17 Q17 => ?_)
      obtain ⟨rfl, R17⟩ := Q17
      refine px_if_eq (tgt := 39) dX7_readE_20 (by decide) (fun H20 => ?_) (fun H20 => ?_)
      · skip
        rw [bI_0] at H20
        have hc := H20
        rw [if_neg hc] at R17
        have R9 := R17
        refine px_return dX7_readE_39 rfl ?_
        exact rl_cg (by rw [whl, if_neg hc]) R9
      · skip
        rw [bI_0] at H20
        have hc := Decidable.not_not.mp H20
        rw [if_pos hc] at R17
        obtain ⟨q1, q2, q3, q4⟩ := turn_g (tp := S 14) (c := (5, 0)) (zAll_g (tp := S 14) hF) hz hn ((Or.inl (ky_y hc).2.1))
        refine px_aload_n dX7_readE_23 rfl rfl ?_
        refine cx_callV0 (k := 9) (i := 0) dX7_readE_24 lX7_62 rfl Nat.one_pos rfl (hO (zN (S 14) t z) S17 R17 (zN_i hz) hn) (by omega) (Nat.le_of_ble_eq_true rfl) (fun S24 Q24 => ?_)
        skip
        refine px_aload_n dX7_readE_27 rfl rfl ?_
        refine px_bipush (v := (-18)) dX7_readE_28 (by decide) ?_
        refine cx_callV1 (k := 9) (i := 0) dX7_readE_30 lX7_69 rfl Nat.one_pos rfl (r_emit G m M0 Q S S24 ((zAll (S 14) t F) (zN (S 14) t z)) (5, 0) (-18) (fun _ => rfl) Q24 (fun _ => by have := q1.1.1; have := q1.1.2.1; have := q1.1.2.2.1; omega)) (by omega) (Nat.le_of_ble_eq_true rfl) (fun S30 Q30 => ?_)
        skip
        refine px_iinc_1 (v := 1) dX7_readE_33 (by decide) (by decide) rfl ?_
        refine px_goto (tgt := 6) dX7_readE_36 (by decide) ?_
        rw [show whl (kk + 1) (fun z => zKy z 13) (fun z => zAd ((zAll (S 14) t F) (zN (S 14) t z)) (5, 0)) z = whl kk (fun z => zKy z 13) (fun z => zAd ((zAll (S 14) t F) (zN (S 14) t z)) (5, 0)) ((fun z => zAd ((zAll (S 14) t F) (zN (S 14) t z)) (5, 0)) z) from by rw [whl, if_pos hc]]
        rw [nI_1]
        exact ih (i + 1) _ S30 Q30 q3.1 (q3.n hn) (Nat.le_trans (Nat.succ_le_succ hiz) q4) (show 161 ≤ zA (zAd ((zAll (S 14) t F) (zN (S 14) t z)) (5, 0)) + kk from by omega)
set_option maxHeartbeats 400000 in
set_option maxRecDepth 100000 in
theorem r_readE (G : Gt) (m : Nat → Prop) (M0 : Nat → va_E) (Q : Qt) (S : MS) (t n d : Nat) (F : PZ → PZ) (hG : TP G S t) (hd : 9 ≤ d) (hF : FOK t n F) (hO : CC G m M0 Q S t n d Y7_readAnd (zAll (S 14) t F)) : CC G m M0 Q S t n (d + 1) Y7_readE (zEi (S 14) t F) := by
  intro z T hR hz hn
  show PC G (CPic G m M0 Q) (d + 1) Y7_readE [.ref (Q.1 9 0)] T 0 0 (rv (fun S' => RDL S S' (zEi (S 14) t F z)))
  refine pc_of (ls := [some (.ref (Q.1 9 0)), none]) (by decide +kernel) rfl (Nat.le_of_ble_eq_true rfl) ?_
  refine px_aload_n dX7_readE_0 rfl rfl ?_
  refine cx_callV0 (k := 9) (i := 0) dX7_readE_1 lX7_62 rfl Nat.one_pos rfl (hO z T hR hz hn) (by omega) (Nat.le_of_ble_eq_true rfl) (fun S1 Q1 => ?_)
  skip
  refine px_iconst (v := 0) dX7_readE_4 (by decide) ?_
  refine px_istore_n1 dX7_readE_5 (by decide) rfl ?_
  exact px_lw (ls' := [some (.ref (Q.1 9 0)), some (.int (nI 0))]) (by simp [LW] <;> rfl) (lp_readE G m M0 Q S t n d F hG hd hF hO 161 0 _ S1 Q1 ((zAll_g (tp := S 14) hF) z hz hn).1 (((zAll_g (tp := S 14) hF) z hz hn).n hn) (Nat.zero_le _) (by omega))
set_option maxHeartbeats 400000 in
set_option maxRecDepth 100000 in
theorem lp_readSum (G : Gt) (m : Nat → Prop) (M0 : Nat → va_E) (Q : Qt) (S : MS) (t n d : Nat) (F : PZ → PZ) (hG : TP G S t) (hd : 9 ≤ d) (hF : FOK t n F) (hO : CC G m M0 Q S t n d Y7_readTerm (zTerm (S 14) t F)) : ∀ (kk i : Nat) (z : PZ) (T : MS) (loc : Option Value), RDL S T z → Zi t z → (zF z < 0 → 6 ≤ zO z + n) → i ≤ zA z → 161 ≤ zA z + kk → PX G (CPic G m M0 Q) (d + 1) Y7_readSum 6 [some (.ref (Q.1 9 0)), some (.int (nI i)), loc] [] T 0 0 (rv (fun S' => RDL S S' (whl kk (fun z => zSg z 43 || zSg z 45) (fun z => zAd (zTerm (S 14) t F (zN (S 14) t z)) (zV z, 0)) z))) := by
  intro kk
  induction kk with
  | zero => intro i z T loc hR hz hn hiz hk; have := hz.1; have := hz.2.1; have := hz.2.2.1; omega
  | succ kk ih =>
    intro i z T loc hR hz hn hiz hk
    have hA := hz.1; have hB := hz.2.1; have hC := hz.2.2.1
    refine px_iload_n dX7_readSum_6 rfl rfl ?_
    refine px_sipush (v := 160) dX7_readSum_7 (by decide) ?_
    refine px_icmp_ge (tgt := 67) dX7_readSum_10 (by decide) (fun H10 => ?_) (fun H10 => ?_)
    · skip
      have i5 : 160 ≤ i := ge_n (a := i) (b := 160) (by omega) (by omega) H10
      have hc : ¬ (zSg z 43 || zSg z 45) = true := fun q => by have := zi_160 hz (Or.inr (Or.inr (or_sg q).2)); omega
      refine px_return dX7_readSum_67 rfl ?_
      exact rl_cg (by rw [whl, if_neg hc]) hR
    · skip
      have i5 : i < 160 := lt_n (a := i) (b := 160) (by omega) (by omega) H10
      by_cases h43 : T 62 1 = 43
      · skip
        have h43z := (rl_sg (x := 43) (by decide) hR).mp h43
        have hzv : zV z = 43 := (sg_y h43z).2.2
        have hs3 : zS z = 3 := (sg_y h43z).2.1
        have hf := (sg_y h43z).1
        have hc : (zSg z 43 || zSg z 45) = true := by rw [h43z]; simp
        obtain ⟨q1, q2, q3, q4⟩ := turn_g (tp := S 14) (c := (zV z, 0)) (zTerm_g (tp := S 14) hF) hz hn (Or.inr (Or.inr hs3))
        refine px_aload_n dX7_readSum_13 rfl rfl ?_
        refine cx_get (k := 9) (i := 0) (f := 3) dX7_readSum_14 gX7_45 rfl Nat.one_pos rfl ?_
        refine px_bipush (v := 43) dX7_readSum_17 (by decide) ?_
        refine px_icmp_eq (tgt := 31) dX7_readSum_19 (by decide) (fun H19 => ?_) (fun H19 => ?_)
        · skip
          refine px_aload_n dX7_readSum_31 rfl rfl ?_
          refine cx_get (k := 9) (i := 0) (f := 3) dX7_readSum_32 gX7_45 rfl Nat.one_pos rfl ?_
          refine px_bipush (v := 43) dX7_readSum_35 (by decide) ?_
          refine px_icmp_ne (tgt := 45) dX7_readSum_37 (by decide) (fun H37 => ?_) (fun H37 => ?_)
          · skip
            exact absurd h43 H37
          · skip
            refine px_bipush (v := (-13)) dX7_readSum_40 (by decide) ?_
            refine px_goto (tgt := 47) dX7_readSum_42 (by decide) ?_
            refine px_istore_n2 dX7_readSum_47 (by decide) rfl ?_
            refine px_aload_n dX7_readSum_48 rfl rfl ?_
            refine cx_callV0 (k := 9) (i := 0) dX7_readSum_49 lX7_35 rfl Nat.one_pos rfl (r_step G m M0 Q S T z t hG hR hf hz.2.1) (by omega) (Nat.le_of_ble_eq_true rfl) (fun S49 Q49 => ?_)
            skip
            refine px_aload_n dX7_readSum_52 rfl rfl ?_
            refine cx_callV0 (k := 9) (i := 0) dX7_readSum_53 lX7_82 rfl Nat.one_pos rfl (hO (zN (S 14) t z) S49 Q49 (zN_i hz) hn) (by omega) (Nat.le_of_ble_eq_true rfl) (fun S53 Q53 => ?_)
            skip
            refine px_aload_n dX7_readSum_56 rfl rfl ?_
            refine px_iload_n dX7_readSum_57 rfl rfl ?_
            refine cx_callV1 (k := 9) (i := 0) dX7_readSum_58 lX7_69 rfl Nat.one_pos rfl (r_emit G m M0 Q S S53 (zTerm (S 14) t F (zN (S 14) t z)) (zV z, 0) _ (fun _ => by rw [hzv]; rfl) Q53 (fun _ => by have := q1.1.1; have := q1.1.2.1; have := q1.1.2.2.1; omega)) (by omega) (Nat.le_of_ble_eq_true rfl) (fun S58 Q58 => ?_)
            skip
            refine px_iinc_1 (v := 1) dX7_readSum_61 (by decide) (by decide) rfl ?_
            refine px_goto (tgt := 6) dX7_readSum_64 (by decide) ?_
            rw [show whl (kk + 1) (fun z => zSg z 43 || zSg z 45) (fun z => zAd (zTerm (S 14) t F (zN (S 14) t z)) (zV z, 0)) z = whl kk (fun z => zSg z 43 || zSg z 45) (fun z => zAd (zTerm (S 14) t F (zN (S 14) t z)) (zV z, 0)) ((fun z => zAd (zTerm (S 14) t F (zN (S 14) t z)) (zV z, 0)) z) from by rw [whl, if_pos hc]]
            rw [nI_1]
            exact ih (i + 1) _ S58 _ Q58 q3.1 (q3.n hn) (Nat.le_trans (Nat.succ_le_succ hiz) q4) (show 161 ≤ zA (zAd (zTerm (S 14) t F (zN (S 14) t z)) (zV z, 0)) + kk from by omega)
        · skip
          exact absurd h43 H19
      by_cases h45 : T 62 1 = 45
      · skip
        have h45z := (rl_sg (x := 45) (by decide) hR).mp h45
        have hzv : zV z = 45 := (sg_y h45z).2.2
        have hs3 : zS z = 3 := (sg_y h45z).2.1
        have hf := (sg_y h45z).1
        have hc : (zSg z 43 || zSg z 45) = true := by rw [h45z]; simp
        obtain ⟨q1, q2, q3, q4⟩ := turn_g (tp := S 14) (c := (zV z, 0)) (zTerm_g (tp := S 14) hF) hz hn (Or.inr (Or.inr hs3))
        refine px_aload_n dX7_readSum_13 rfl rfl ?_
        refine cx_get (k := 9) (i := 0) (f := 3) dX7_readSum_14 gX7_45 rfl Nat.one_pos rfl ?_
        refine px_bipush (v := 43) dX7_readSum_17 (by decide) ?_
        refine px_icmp_eq (tgt := 31) dX7_readSum_19 (by decide) (fun H19 => ?_) (fun H19 => ?_)
        · skip
          exact absurd H19 h43
        · skip
          refine px_aload_n dX7_readSum_22 rfl rfl ?_
          refine cx_get (k := 9) (i := 0) (f := 3) dX7_readSum_23 gX7_45 rfl Nat.one_pos rfl ?_
          refine px_bipush (v := 45) dX7_readSum_26 (by decide) ?_
          refine px_icmp_ne (tgt := 67) dX7_readSum_28 (by decide) (fun H28 => ?_) (fun H28 => ?_)
          · skip
            exact absurd h45 H28
          · skip
            refine px_aload_n dX7_readSum_31 rfl rfl ?_
            refine cx_get (k := 9) (i := 0) (f := 3) dX7_readSum_32 gX7_45 rfl Nat.one_pos rfl ?_
            refine px_bipush (v := 43) dX7_readSum_35 (by decide) ?_
            refine px_icmp_ne (tgt := 45) dX7_readSum_37 (by decide) (fun H37 => ?_) (fun H37 => ?_)
            · skip
              refine px_bipush (v := (-14)) dX7_readSum_45 (by decide) ?_
              refine px_istore_n2 dX7_readSum_47 (by decide) rfl ?_
              refine px_aload_n dX7_readSum_48 rfl rfl ?_
              refine cx_callV0 (k := 9) (i := 0) dX7_readSum_49 lX7_35 rfl Nat.one_pos rfl (r_step G m M0 Q S T z t hG hR hf hz.2.1) (by omega) (Nat.le_of_ble_eq_true rfl) (fun S49 Q49 => ?_)
              skip
              refine px_aload_n dX7_readSum_52 rfl rfl ?_
              refine cx_callV0 (k := 9) (i := 0) dX7_readSum_53 lX7_82 rfl Nat.one_pos rfl (hO (zN (S 14) t z) S49 Q49 (zN_i hz) hn) (by omega) (Nat.le_of_ble_eq_true rfl) (fun S53 Q53 => ?_)
              skip
              refine px_aload_n dX7_readSum_56 rfl rfl ?_
              refine px_iload_n dX7_readSum_57 rfl rfl ?_
              refine cx_callV1 (k := 9) (i := 0) dX7_readSum_58 lX7_69 rfl Nat.one_pos rfl (r_emit G m M0 Q S S53 (zTerm (S 14) t F (zN (S 14) t z)) (zV z, 0) _ (fun _ => by rw [hzv]; rfl) Q53 (fun _ => by have := q1.1.1; have := q1.1.2.1; have := q1.1.2.2.1; omega)) (by omega) (Nat.le_of_ble_eq_true rfl) (fun S58 Q58 => ?_)
              skip
              refine px_iinc_1 (v := 1) dX7_readSum_61 (by decide) (by decide) rfl ?_
              refine px_goto (tgt := 6) dX7_readSum_64 (by decide) ?_
              rw [show whl (kk + 1) (fun z => zSg z 43 || zSg z 45) (fun z => zAd (zTerm (S 14) t F (zN (S 14) t z)) (zV z, 0)) z = whl kk (fun z => zSg z 43 || zSg z 45) (fun z => zAd (zTerm (S 14) t F (zN (S 14) t z)) (zV z, 0)) ((fun z => zAd (zTerm (S 14) t F (zN (S 14) t z)) (zV z, 0)) z) from by rw [whl, if_pos hc]]
              rw [nI_1]
              exact ih (i + 1) _ S58 _ Q58 q3.1 (q3.n hn) (Nat.le_trans (Nat.succ_le_succ hiz) q4) (show 161 ≤ zA (zAd (zTerm (S 14) t F (zN (S 14) t z)) (zV z, 0)) + kk from by omega)
            · skip
              exact absurd H37 h43
      · skip
        have hc : ¬ (zSg z 43 || zSg z 45) = true := fun q => by
          rcases (Bool.or_eq_true _ _).mp q with q | q
          · exact h43 ((rl_sg (by decide) hR).mpr q)
          · exact h45 ((rl_sg (by decide) hR).mpr q)
        refine px_aload_n dX7_readSum_13 rfl rfl ?_
        refine cx_get (k := 9) (i := 0) (f := 3) dX7_readSum_14 gX7_45 rfl Nat.one_pos rfl ?_
        refine px_bipush (v := 43) dX7_readSum_17 (by decide) ?_
        refine px_icmp_eq (tgt := 31) dX7_readSum_19 (by decide) (fun H19 => ?_) (fun H19 => ?_)
        · skip
          exact absurd H19 h43
        · skip
          refine px_aload_n dX7_readSum_22 rfl rfl ?_
          refine cx_get (k := 9) (i := 0) (f := 3) dX7_readSum_23 gX7_45 rfl Nat.one_pos rfl ?_
          refine px_bipush (v := 45) dX7_readSum_26 (by decide) ?_
          refine px_icmp_ne (tgt := 67) dX7_readSum_28 (by decide) (fun H28 => ?_) (fun H28 => ?_)
          · skip
            refine px_return dX7_readSum_67 rfl ?_
            exact rl_cg (by rw [whl, if_neg hc]) hR
          · skip
            exact absurd H28 h45
      -- end
set_option maxHeartbeats 400000 in
set_option maxRecDepth 100000 in
theorem r_readSum (G : Gt) (m : Nat → Prop) (M0 : Nat → va_E) (Q : Qt) (S : MS) (t n d : Nat) (F : PZ → PZ) (hG : TP G S t) (hd : 9 ≤ d) (hF : FOK t n F) (hO : CC G m M0 Q S t n d Y7_readTerm (zTerm (S 14) t F)) : CC G m M0 Q S t n (d + 1) Y7_readSum (zSum (S 14) t F) := by
  intro z T hR hz hn
  show PC G (CPic G m M0 Q) (d + 1) Y7_readSum [.ref (Q.1 9 0)] T 0 0 (rv (fun S' => RDL S S' (zSum (S 14) t F z)))
  refine pc_of (ls := [some (.ref (Q.1 9 0)), none, none]) (by decide +kernel) rfl (Nat.le_of_ble_eq_true rfl) ?_
  refine px_aload_n dX7_readSum_0 rfl rfl ?_
  refine cx_callV0 (k := 9) (i := 0) dX7_readSum_1 lX7_82 rfl Nat.one_pos rfl (hO z T hR hz hn) (by omega) (Nat.le_of_ble_eq_true rfl) (fun S1 Q1 => ?_)
  skip
  refine px_iconst (v := 0) dX7_readSum_4 (by decide) ?_
  refine px_istore_n1 dX7_readSum_5 (by decide) rfl ?_
  exact px_lw (ls' := [some (.ref (Q.1 9 0)), some (.int (nI 0)), none]) (by simp [LW] <;> rfl) (lp_readSum G m M0 Q S t n d F hG hd hF hO 161 0 _ S1 none Q1 ((zTerm_g (tp := S 14) hF) z hz hn).1 (((zTerm_g (tp := S 14) hF) z hz hn).n hn) (Nat.zero_le _) (by omega))
