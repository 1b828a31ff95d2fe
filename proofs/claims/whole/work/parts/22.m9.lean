/-! THE REFERENCE: all partings of one coat -/
def scc : List Nat := [28, 29, 30, 31, 32, 33, 34, 35]
theorem frc {S T : MS} (h : fr scc S T) : fr scr S T := h.mono (by decide)
/-- mayTwo holds what may meet, as far as place z -/
def MT (S : MS) (n c z : Nat) (T : MS) : Prop := ∀ q a b, q < 6 → a < n → b < n → 36 * q + 6 * a + b < z → T 35 (36 * q + 6 * a + b) = mMeet S c (nI q) a b
theorem n36 {q a b : Nat} : (36 : Int32) * nI q + 6 * nI a + nI b = nI (36 * q + 6 * a + b) := by
  rw [show (36 : Int32) = nI 36 from rfl, show (6 : Int32) = nI 6 from rfl, pk_mul, pk_mul, nI_add, nI_add]
theorem MT.up {S T : MS} {n c q a b : Nat} (hn : n ≤ 6) (hb : b < n) (h : MT S n c (36 * q + 6 * a + b) T) (ha : a < n) : MT S n c (36 * q + 6 * a + (b + 1)) (up2 T 35 (36 * q + 6 * a + b) (mMeet S c (nI q) a b)) := by
  intro q' a' b' h1 h2 h3 h4
  rw [up2_eq]
  by_cases e : 36 * q' + 6 * a' + b' = 36 * q + 6 * a + b
  · have e1 : q' = q := by omega
    have e2 : a' = a := by omega
    have e3 : b' = b := by omega
    subst e1; subst e2; subst e3
    exact pk_us
  · rw [pk_un e]
    exact h q' a' b' h1 h2 h3 (by omega)
theorem MT.row {S T : MS} {n c q a : Nat} (hn : n ≤ 6) (h : MT S n c (36 * q + 6 * a + n) T) : MT S n c (36 * q + 6 * (a + 1) + 0) T := fun q' a' b' h1 h2 h3 h4 => h q' a' b' h1 h2 h3 (by omega)
theorem MT.tab {S T : MS} {n c q : Nat} (hn : n ≤ 6) (h : MT S n c (36 * q + 6 * n + 0) T) : MT S n c (36 * (q + 1) + 6 * 0 + 0) T := fun q' a' b' h1 h2 h3 h4 => h q' a' b' h1 h2 h3 (by omega)
theorem MT.go {S T T' : MS} {n c z : Nat} (h : MT S n c z T) (e : T' 35 = T 35) : MT S n c z T' := fun q a b h1 h2 h3 h4 => by rw [e]; exact h q a b h1 h2 h3 h4
set_option maxHeartbeats 4000000 in
set_option maxRecDepth 100000 in
theorem lp_may3 (G : Gt) (m : Nat) (h0 : Ht) (S : MS) (n c : Nat) (hI : HI S n) (hc : c < 8) (q a : Nat) (hq : q < 6) (ha : a < n) (K : ∀ T : MS, fr scc S T → MT S n c (36 * q + 6 * a + n) T → PX G (MPic G m h0) 5 Y12_findMay 62 [some (.ref m), some (.int (nI c)), some (.int (nI q)), some (.int (nI a)), none] [] T 0 0 (rv (fun S' => fr scc S S' ∧ MT S n c 216 S'))) : ∀ (kk b : Nat) (T : MS), fr scc S T → MT S n c (36 * q + 6 * a + b) T → b ≤ n → n + 1 ≤ b + kk → PX G (MPic G m h0) 5 Y12_findMay 21 [some (.ref m), some (.int (nI c)), some (.int (nI q)), some (.int (nI a)), some (.int (nI b))] [] T 0 0 (rv (fun S' => fr scc S S' ∧ MT S n c 216 S')) := by
  intro kk
  induction kk with
  | zero => intro b T h1 h2 h3 h4; omega
  | succ kk ih =>
    intro b T hf ht hi hk
    have h6 := hI.2.1
    refine px_iload dX12_findMay_21 rfl ?_
    refine px_aload_n dX12_findMay_23 rfl rfl ?_
    refine mx_getI (k := 1) dX12_findMay_24 gX12_106 (fun _ => rfl) ?_
    refine px_icmp_ge (tgt := 62) dX12_findMay_27 (by decide) (fun H27 => ?_) (fun H27 => ?_)
    · skip
      rw [(hI.go (frc hf)).1] at H27
      have e5 : b = n := by have := ge_n (by omega) (by omega) H27; omega
      rw [e5]
      rw [e5] at ht
      exact px_lw (ls' := [some (.ref m), some (.int (nI c)), some (.int (nI q)), some (.int (nI a)), none]) (by simp [LW]) (K T hf ht)
    · skip
      rw [(hI.go (frc hf)).1] at H27
      have l5 : b < n := lt_n (by omega) (by omega) H27
      refine px_aload_n dX12_findMay_30 rfl rfl ?_
      refine mx_getA (k := 35) (j := 19) dX12_findMay_31 gX12_73 (fun _ => rfl) ?_
      refine px_bipush (v := 36) dX12_findMay_34 (by decide) ?_
      refine px_iload_n dX12_findMay_36 rfl rfl ?_
      refine px_imul dX12_findMay_37 ?_
      refine px_bipush (v := 6) dX12_findMay_38 (by decide) ?_
      refine px_iload_n dX12_findMay_40 rfl rfl ?_
      refine px_imul dX12_findMay_41 ?_
      refine px_iadd dX12_findMay_42 ?_
      refine px_iload dX12_findMay_43 rfl ?_
      refine px_iadd dX12_findMay_45 ?_
      refine px_aload_n dX12_findMay_46 rfl rfl ?_
      refine px_iload_n dX12_findMay_47 rfl rfl ?_
      refine px_iload_n dX12_findMay_48 rfl rfl ?_
      refine px_iload_n dX12_findMay_49 rfl rfl ?_
      refine px_iload dX12_findMay_50 rfl ?_
      refine mx_callI4 dX12_findMay_52 lX12_252 rfl (c_X12_doMeet G m h0 T n c a b (nI q) (hI.go (frc hf)) hc ha l5) (by decide) (Nat.le_of_ble_eq_true rfl) (fun x52 S52 Q52 => ?_)
      obtain ⟨rfl, f52⟩ := Q52
      rw [mMeet_c (frc hf)]
      refine mx_zast (j := 19) (k := 35) (36 * q + 6 * a + b) dX12_findMay_55 rfl n36 (by omega) (by decide) ?_
      refine px_iinc_4 (v := 1) dX12_findMay_56 (by decide) (by decide) rfl ?_
      refine px_goto (tgt := 21) dX12_findMay_59 (by decide) ?_
      rw [nI_1, narB (mMeet_01 S c (nI q) a b)]
      exact ih (b + 1) _ ((hf.tr (f52.mono (by decide))).up (by decide)) ((ht.go (f52 35 (by decide))).up h6 l5 ha) (by omega) (by omega)
set_option maxHeartbeats 4000000 in
set_option maxRecDepth 100000 in
theorem lp_may2 (G : Gt) (m : Nat) (h0 : Ht) (S : MS) (n c : Nat) (hI : HI S n) (hc : c < 8) (q : Nat) (hq : q < 6) (K : ∀ T : MS, fr scc S T → MT S n c (36 * q + 6 * n + 0) T → PX G (MPic G m h0) 5 Y12_findMay 68 [some (.ref m), some (.int (nI c)), some (.int (nI q)), none, none] [] T 0 0 (rv (fun S' => fr scc S S' ∧ MT S n c 216 S'))) : ∀ (kk a : Nat) (T : MS), fr scc S T → MT S n c (36 * q + 6 * a + 0) T → a ≤ n → n + 1 ≤ a + kk → PX G (MPic G m h0) 5 Y12_findMay 10 [some (.ref m), some (.int (nI c)), some (.int (nI q)), some (.int (nI a)), none] [] T 0 0 (rv (fun S' => fr scc S S' ∧ MT S n c 216 S')) := by
  intro kk
  induction kk with
  | zero => intro b T h1 h2 h3 h4; omega
  | succ kk ih =>
    intro a T hf ht hi hk
    have h6 := hI.2.1
    refine px_iload_n dX12_findMay_10 rfl rfl ?_
    refine px_aload_n dX12_findMay_11 rfl rfl ?_
    refine mx_getI (k := 1) dX12_findMay_12 gX12_106 (fun _ => rfl) ?_
    refine px_icmp_ge (tgt := 68) dX12_findMay_15 (by decide) (fun H15 => ?_) (fun H15 => ?_)
    · skip
      rw [(hI.go (frc hf)).1] at H15
      have e5 : a = n := by have := ge_n (by omega) (by omega) H15; omega
      rw [e5]
      rw [e5] at ht
      exact px_lw (ls' := [some (.ref m), some (.int (nI c)), some (.int (nI q)), none, none]) (by simp [LW]) (K T hf ht)
    · skip
      rw [(hI.go (frc hf)).1] at H15
      have l5 : a < n := lt_n (by omega) (by omega) H15
      refine px_iconst (v := 0) dX12_findMay_18 (by decide) ?_
      refine px_istore_4 dX12_findMay_19 (by decide) rfl ?_
      refine lp_may3 G m h0 S n c hI hc q a hq l5 (fun T3 f3 t3 => ?_) (n + 1) 0 T hf ht (by omega) (by omega)
      refine px_iinc_3 (v := 1) dX12_findMay_62 (by decide) (by decide) rfl ?_
      refine px_goto (tgt := 10) dX12_findMay_65 (by decide) ?_
      rw [nI_1]
      exact ih (a + 1) _ f3 (t3.row h6) (by omega) (by omega)
set_option maxHeartbeats 4000000 in
set_option maxRecDepth 100000 in
theorem lp_may1 (G : Gt) (m : Nat) (h0 : Ht) (S : MS) (n c : Nat) (hI : HI S n) (hc : c < 8) : ∀ (kk q : Nat) (T : MS), fr scc S T → MT S n c (36 * q + 6 * 0 + 0) T → q ≤ 6 → 7 ≤ q + kk → PX G (MPic G m h0) 5 Y12_findMay 2 [some (.ref m), some (.int (nI c)), some (.int (nI q)), none, none] [] T 0 0 (rv (fun S' => fr scc S S' ∧ MT S n c 216 S')) := by
  intro kk
  induction kk with
  | zero => intro b T h1 h2 h3 h4; omega
  | succ kk ih =>
    intro q T hf ht hi hk
    have h6 := hI.2.1
    refine px_iload_n dX12_findMay_2 rfl rfl ?_
    refine px_bipush (v := 6) dX12_findMay_3 (by decide) ?_
    refine px_icmp_ge (tgt := 74) dX12_findMay_5 (by decide) (fun H5 => ?_) (fun H5 => ?_)
    · skip
      have e5 : q = 6 := by have := ge_n (a := q) (b := 6) (by omega) (by omega) H5; omega
      subst e5
      refine px_return dX12_findMay_74 rfl ?_
      exact ⟨hf, ht⟩
    · skip
      have l5 : q < 6 := lt_n (a := q) (b := 6) (by omega) (by omega) H5
      refine px_iconst (v := 0) dX12_findMay_8 (by decide) ?_
      refine px_istore_n3 dX12_findMay_9 (by decide) rfl ?_
      refine lp_may2 G m h0 S n c hI hc q l5 (fun T3 f3 t3 => ?_) (n + 1) 0 T hf ht (by omega) (by omega)
      refine px_iinc_2 (v := 1) dX12_findMay_68 (by decide) (by decide) rfl ?_
      refine px_goto (tgt := 2) dX12_findMay_71 (by decide) ?_
      rw [nI_1]
      exact ih (q + 1) _ f3 (t3.tab h6) (by omega) (by omega)
set_option maxHeartbeats 4000000 in
set_option maxRecDepth 100000 in
theorem c_X12_findMay (G : Gt) (m : Nat) (h0 : Ht) (S : MS) (n c : Nat) (hI : HI S n) (hc : c < 8) : PC G (MPic G m h0) 5 Y12_findMay [.ref m, .int (nI c)] S 0 0 (rv (fun S' => fr scc S S' ∧ MT S n c 216 S')) := by
  refine pc_of (ls := [some (.ref m), some (.int (nI c)), none, none, none]) (by decide +kernel) rfl (Nat.le_of_ble_eq_true rfl) ?_
  refine px_iconst (v := 0) dX12_findMay_0 (by decide) ?_
  refine px_istore_n2 dX12_findMay_1 (by decide) rfl ?_
  exact lp_may1 G m h0 S n c hI hc 7 0 S fr.rf (fun q a b h1 h2 h3 h4 => by omega) (by omega) (by omega)
