/-! THE CLASS: what is kept; the cutter without its search -/
/-- the reference's rows that answers show are as they were -/
def fk (S T : MS) : Prop := ∀ k, k ≤ 20 ∨ (39 ≤ k ∧ k ≤ 50) → T k = S k
theorem fk.rf {S : MS} : fk S S := fun _ _ => rfl
theorem fk.tr {S T U : MS} (h : fk S T) (h2 : fk T U) : fk S U := fun k hk => (h2 k hk).trans (h k hk)
theorem fr.fk {X : List Nat} {S T : MS} (h : fr X S T) (hX : ∀ q ∈ X, 60 ≤ q) : fk S T := fun k hk => h k (fun e => by have := hX k e; omega)
theorem fr_set {X : List Nat} {S : MS} {k : Nat} {f : Nat → Int32} (hk : k ∈ X) : fr X S (setA S k f) := fun q hq => setA_ne (fun e => hq (e ▸ hk))
section Kg
variable {S T : MS}
theorem mTk_k {c : Nat} {p : Int32} (hf : fk S T) : mTk T c p = mTk S c p := by unfold mTk mPl; rw [hf 7 (by decide), hf 8 (by decide), hf 9 (by decide)]
theorem mTkS_k {c : Nat} (hf : fk S T) : ∀ n, mTkS T c n = mTkS S c n
  | 0 => rfl
  | n + 1 => by rw [mTkS, mTkS, mTkS_k hf n, mTk_k hf]
theorem mBe_k {c : Nat} {q : Int32} (hf : fk S T) : mBe T c q = mBe S c q := by unfold mBe; rw [hf 7 (by decide), hf 9 (by decide)]
theorem mBr_k {c : Nat} (hf : fk S T) : mBr T c = mBr S c := by unfold mBr; rw [hf 7 (by decide), hf 9 (by decide), hf 10 (by decide)]
theorem mSh_k {h : Nat} (hf : fk S T) : mSh T h = mSh S h := by unfold mSh; rw [hf 3 (by decide), hf 4 (by decide), hf 5 (by decide)]
theorem cs_go (h18 : T 18 = S 18) (h19 : T 19 = S 19) : ∀ n s, cs T s n = cs S s n := by
  intro n
  induction n with
  | zero => intro s; rfl
  | succ n ih => intro s; simp only [cs, h18, h19, ih]
theorem tv_k {w : Nat} {fc : Nat → Int32} (hf : fk S T) : tv T w fc = tv S w fc := by
  unfold tv tCode tBeg tEnd
  rw [hf 17 (by decide), hf 20 (by decide), cs_go (hf 18 (by decide)) (hf 19 (by decide))]
theorem mBear_k {c : Nat} {q : Int32} (hf : fk S T) : mBear T c q = mBear S c q := by unfold mBear; rw [tv_k hf, mTk_k hf, mTk_k hf, mBe_k hf, hf 8 (by decide), hf 9 (by decide)]
theorem mKeep_k {c : Nat} (hf : fk S T) : mKeep T c = mKeep S c := by unfold mKeep; rw [tv_k hf, mTkS_k hf, hf 8 (by decide), hf 9 (by decide)]
theorem mSeen_k {a b : Nat} (hf : fk S T) : mSeen T a b = mSeen S a b := by unfold mSeen; rw [tv_k hf, mSh_k hf, mSh_k hf, hf 2 (by decide), hf 4 (by decide)]
theorem mMeet_k {c a b : Nat} {q : Int32} (hf : fk S T) : mMeet T c q a b = mMeet S c q a b := by unfold mMeet; rw [mBe_k hf, mBear_k hf, mSeen_k hf]
theorem mAllS_k (hf : fk S T) : ∀ n, mAllS T n = mAllS S n
  | 0 => rfl
  | n + 1 => by rw [mAllS, mAllS, mAllS_k hf n, hf 2 (by decide)]
theorem fk.set2 {f g : Nat → Int32} (hf : fk S T) (h : g = f) : fk (setA S 2 f) (setA T 2 g) := by
  intro k hk
  by_cases e : k = 2
  · subst e; rw [setA_eq, setA_eq, h]
  · rw [setA_ne e, setA_ne e, hf k hk]
theorem KO_k {i : Nat} (hf : fk S T) (h : KO S i) : KO T i := by unfold KO; rw [hf 7 (by decide)]; exact h
theorem WB_k (hf : fk S T) (h : WB S) : WB T := by unfold WB; rw [hf 3 (by decide), hf 4 (by decide), hf 5 (by decide)]; exact h
end Kg
theorem TX_k {S T : MS} {Q : Qt} {t : Nat} (h : TX S Q t) (hf : fk S T) (h1 : T 160 = S 160) (h2 : T (150 + t) = S (150 + t)) (h3 : T (70 + t) = S (70 + t)) : TX T Q t := by
  refine ⟨by rw [hf 17 (by decide)]; exact h.1, h.2.1, h.2.2.1, fun w hw => ?_⟩
  rw [tqL_go (hf 18 (by decide)) (hf 19 (by decide)) (hf 20 (by decide))]
  exact (h.2.2.2 w hw).go h1 h2 h3
section CXs
variable {σ : Type} {G : Gt} {Pic : σ → Ht → Prop} {d d1 : Nat} {Y Y' : Yt} {pc index n : Nat} {ls : List (Option Value)} {st st0 av : List Value} {S : σ} {mc ms : Nat} {Post : Option Value → σ → Prop}
theorem px_callSV {P : σ → Prop} (hd : decode Y.2.1 pc = .ok (.invokestatic index, 3)) (hl : cLLS Y.1.cls index Y' n) (hn : av.length = n) (hst : st0 = av.reverse ++ st) (hC : PC G Pic d1 Y' av S 0 0 (rv P)) (hdd : d1 + 1 ≤ d) (hcat : (st.map fun v => v.category).sum ≤ 8) (kk : ∀ S', P S' → PX G Pic d Y (pc + 3) ls st S' mc ms Post) : PX G Pic d Y pc ls st0 S mc ms Post :=
  fun h hp => ax_budget (Nat.le_of_eq (Nat.zero_add mc)) (Nat.le_of_eq (Nat.zero_add ms)) (ax_callS hd hl hn hst hdd hcat (hC h hp) (fun r h' hq => by obtain ⟨S', hp', rfl, hP⟩ := hq; exact kk S' hP h' hp'))
end CXs
theorem fill_up {S : MS} {r i : Nat} {v : Int32} : up2 (setA S r (fa_fill (fun _ => v) (S r) i)) r i v = setA S r (fa_fill (fun _ => v) (S r) (i + 1)) := by
  rw [setA_up]
  congr 1
  exact fa_fill_succ (fun _ => v) (S r) i
theorem fill_0 {S : MS} {r : Nat} {v : Int32} : setA S r (fa_fill (fun _ => v) (S r) 0) = S := by rw [fa_fill_0, setA_id]
set_option maxHeartbeats 4000000 in
set_option maxRecDepth 100000 in
theorem lp_fill (G : Gt) (m : Nat → Prop) (M0 : Nat → va_E) (Q : Qt) (S : MS) (kk_ ik r n : Nat) (v : Int32) (hA : ∀ S' : MS, S' 160 = S 160 → cE G Q S' kk_ ik = .inl (gC G 0, n, .inl (S' r))) (hkl : ik < lim Q kk_) (hr : r ≠ 7 ∧ r ≠ 160) (hw : ∀ j, ow r j = (kk_, ik)) (hn : n ≤ 100000) : ∀ (kk i : Nat), i ≤ n → n + 1 ≤ i + kk → PX G (CPic G m M0 Q) 1 YJ7_fill_53178 5 [some (.ref (Q.1 kk_ ik)), some (.int v), some (.int (nI i)), some (.int (nI n))] [] (setA S r (fa_fill (fun _ => v) (S r) i)) 0 0 (rv (fun S' => S' = setA S r (fa_fill (fun _ => v) (S r) n))) := by
  intro kk
  induction kk with
  | zero => intro i h1 h2; omega
  | succ kk ih =>
    intro i h1 h2
    refine px_iload_n dJ7_fill_53178_5 rfl rfl ?_
    refine px_iload_n dJ7_fill_53178_6 rfl rfl ?_
    refine px_icmp_ge (tgt := 20) dJ7_fill_53178_7 (by decide) (fun H7 => ?_) (fun H7 => ?_)
    · have e : i = n := by have := ge_n (a := i) (b := n) (by omega) (by omega) H7; omega
      subst e
      refine px_return dJ7_fill_53178_20 rfl ?_
      exact rfl
    · have l : i < n := lt_n (a := i) (b := n) (by omega) (by omega) H7
      refine px_aload_n dJ7_fill_53178_10 rfl rfl ?_
      refine px_iload_n dJ7_fill_53178_11 rfl rfl ?_
      refine px_iload_n dJ7_fill_53178_12 rfl rfl ?_
      refine cx_iast (k := kk_) (i := ik) (r := r) (n := n) i dJ7_fill_53178_13 (fun S' e9 => hA S' (e9.trans (setA_ne (Ne.symm hr.2)))) hkl hr (hw _) rfl l (by omega) ?_
      refine px_iinc_2 (v := 1) dJ7_fill_53178_14 (by decide) (by decide) rfl ?_
      refine px_goto (tgt := 5) dJ7_fill_53178_17 (by decide) ?_
      refine px_lw (ls' := [some (.ref (Q.1 kk_ ik)), some (.int v), some (.int (nI (i + 1))), some (.int (nI n))]) (by simp [LW, nI_1]) (px_S fill_up (ih (i + 1) (by omega) (by omega)))
set_option maxHeartbeats 4000000 in
set_option maxRecDepth 100000 in
theorem c_fill (G : Gt) (m : Nat → Prop) (M0 : Nat → va_E) (Q : Qt) (S : MS) (kk_ ik r n : Nat) (v : Int32) (hA : ∀ S' : MS, S' 160 = S 160 → cE G Q S' kk_ ik = .inl (gC G 0, n, .inl (S' r))) (hkl : ik < lim Q kk_) (hr : r ≠ 7 ∧ r ≠ 160) (hw : ∀ j, ow r j = (kk_, ik)) (hn : n ≤ 100000) : PC G (CPic G m M0 Q) 1 YJ7_fill_53178 [.ref (Q.1 kk_ ik), .int v] S 0 0 (rv (fun S' => S' = setA S r (fa_fill (fun _ => v) (S r) n))) := by
  refine pc_ofF (ls := [some (.ref (Q.1 kk_ ik)), some (.int v), none, none]) (by decide +kernel) rfl (Nat.le_of_ble_eq_true rfl) ?_
  refine px_iconst (v := 0) dJ7_fill_53178_0 (by decide) ?_
  refine px_istore_n2 dJ7_fill_53178_1 (by decide) rfl ?_
  refine px_aload_n dJ7_fill_53178_2 rfl rfl ?_
  refine cx_alen (k := kk_) (i := ik) (t := 0) (n := 0) (v := nI n) dJ7_fill_53178_3 (hA S rfl) hkl rfl rfl ?_
  refine px_istore_n3 dJ7_fill_53178_4 (by decide) rfl ?_
  exact px_S fill_0.symm (lp_fill G m M0 Q S kk_ ik r n v hA hkl hr hw hn (n + 1) 0 (by omega) (by omega))
theorem wtN {k : Nat} (h : k < 5) : cWeight.getD k 0 = nI (6 ^ (4 - k)) := by
  rcases (by omega : k = 0 ∨ k = 1 ∨ k = 2 ∨ k = 3 ∨ k = 4) with rfl | rfl | rfl | rfl | rfl <;> decide
theorem lowN {q : Nat} (h : q < 6) : cLow.getD q 0 = nI (oN q) := by
  rcases (by omega : q = 0 ∨ q = 1 ∨ q = 2 ∨ q = 3 ∨ q = 4 ∨ q = 5) with rfl | rfl | rfl | rfl | rfl | rfl <;> decide
theorem highN {q : Nat} (h : q < 6) : cHigh.getD q 0 = nI (tN2 q) := by
  rcases (by omega : q = 0 ∨ q = 1 ∨ q = 2 ∨ q = 3 ∨ q = 4 ∨ q = 5) with rfl | rfl | rfl | rfl | rfl | rfl <;> decide
theorem dg_i {p k : Nat} (hp : p < 7776) (hk : k < 5) : nI p / nI (6 ^ (4 - k)) - nI p / nI (6 ^ (4 - k)) / 6 * 6 = nI (dg p k) := by
  have h1 : 6 ^ (4 - k) < 2 ^ 31 := by
    rcases (by omega : k = 0 ∨ k = 1 ∨ k = 2 ∨ k = 3 ∨ k = 4) with rfl | rfl | rfl | rfl | rfl <;> decide
  rw [pk_div (by omega) (Nat.pow_pos (by decide)) h1, n6r (p6_lt hp)]
  rfl
theorem fw_wt : Cond.fieldLink RX11 294 RX11 "DIGIT_WEIGHT" "[I" ∈ tb := (tb_4 114 rfl rfl)
set_option maxHeartbeats 4000000 in
set_option maxRecDepth 100000 in
theorem p6_ne {k : Nat} (h : k < 5) : nI (6 ^ (4 - k)) ≠ 0 := by
  rcases (by omega : k = 0 ∨ k = 1 ∨ k = 2 ∨ k = 3 ∨ k = 4) with rfl | rfl | rfl | rfl | rfl <;> decide
set_option maxHeartbeats 4000000 in
set_option maxRecDepth 100000 in
theorem c_X11_hankOf (G : Gt) (p k : Nat) (hp : p < 7776) (hk : k < 5) : PS G 1 Y11_hankOf [.int (nI p), .int (nI k)] (nI (dg p k)) := by
  refine ps_ofp (ls := [some (.int (nI p)), some (.int (nI k))]) (by decide +kernel) rfl (Nat.le_of_ble_eq_true rfl) (fun h => ?_)
  refine px_iload_n dX11_hankOf_0 rfl rfl ?_
  refine px_wt dX11_hankOf_1 fw_wt ?_
  refine px_iload_n dX11_hankOf_4 rfl rfl ?_
  refine px_wtL k dX11_hankOf_5 rfl hk (wtN hk) ?_
  refine px_idiv dX11_hankOf_6 (p6_ne hk) ?_
  refine px_bipush (v := 6) dX11_hankOf_7 (by decide) ?_
  refine px_irem dX11_hankOf_9 (by decide) ?_
  refine px_iretI dX11_hankOf_10 rfl ?_
  exact ⟨dg_i hp hk, rfl⟩
/-- coat c is laid out in cutter κ with what U holds -/
def LO (T : MS) (κ : Nat) (U : MS) (n c : Nat) : Prop := T (120 + 10 * κ) 3 = nI n ∧ (∀ p, p < 5 → T (124 + 10 * κ) p = mTk U c (nI p)) ∧ (∀ q, q < 6 → T (125 + 10 * κ) q = mBe U c (nI q) + mBear U c (nI q)) ∧ (∀ a, a < n → T (121 + 10 * κ) a = U 2 a) ∧ ∀ a b, a < n → b < n → a ≠ b → T (123 + 10 * κ) (a * 6 + b) = mSeen U a b
def scK (κ : Nat) : List Nat := [122 + 10 * κ, 126 + 10 * κ]
theorem LO.go {S T U : MS} {κ n c : Nat} (h : LO S κ U n c) (h0 : T (120 + 10 * κ) 3 = S (120 + 10 * κ) 3) (h4 : T (124 + 10 * κ) = S (124 + 10 * κ)) (h5 : T (125 + 10 * κ) = S (125 + 10 * κ)) (h1 : T (121 + 10 * κ) = S (121 + 10 * κ)) (h3 : T (123 + 10 * κ) = S (123 + 10 * κ)) : LO T κ U n c := by
  unfold LO
  rw [h0, h4, h5, h1, h3]
  exact h
theorem scK_n {κ k : Nat} (h1 : k ≠ 122 + 10 * κ) (h2 : k ≠ 126 + 10 * κ) : k ∉ scK κ := by
  unfold scK
  simp only [List.mem_cons, List.not_mem_nil, or_false]
  omega
theorem LO.frK {S T U : MS} {κ n c : Nat} (h : LO S κ U n c) (hf : fr (scK κ) S T) : LO T κ U n c :=
  h.go (by rw [hf _ (scK_n (by omega) (by omega))]) (hf _ (scK_n (by omega) (by omega))) (hf _ (scK_n (by omega) (by omega))) (hf _ (scK_n (by omega) (by omega))) (hf _ (scK_n (by omega) (by omega)))
set_option maxHeartbeats 4000000 in
set_option maxRecDepth 100000 in
theorem c_X3_fitTogether (G : Gt) (m : Nat → Prop) (M0 : Nat → va_E) (Q : Qt) (S : MS) (κ n c q a b : Nat) (U : MS) {d : Nat} (hκ : κ < 2) (hLO : LO S κ U n c) (hn : n ≤ 6) (hq : q < 6) (ha : a < n) (hb : b < n) : PC G (CPic G m M0 Q) d Y3_fitTogether [.ref (Q.1 13 κ), .int (nI q), .int (nI a), .int (nI b)] S 0 0 (ri (fun x S' => x = mMeet U c (nI q) a b ∧ S' = S)) := by
  refine pc_of (ls := [some (.ref (Q.1 13 κ)), some (.int (nI q)), some (.int (nI a)), some (.int (nI b))]) (by decide +kernel) rfl (Nat.le_of_ble_eq_true rfl) ?_
  refine px_iload_n dX3_fitTogether_0 rfl rfl ?_
  refine px_iload_n dX3_fitTogether_1 rfl rfl ?_
  refine px_icmp_eq (tgt := 25) dX3_fitTogether_2 (by decide) (fun H2 => ?_) (fun H2 => ?_)
  · skip
    have e2 := eq_n (by omega) (by omega) H2
    refine px_iconst (v := 1) dX3_fitTogether_25 (by decide) ?_
    refine px_goto (tgt := 30) dX3_fitTogether_26 (by decide) ?_
    refine px_iretZ dX3_fitTogether_30 rfl (by first | rfl | decide) ?_
    exact ⟨by simp [mMeet, *], rfl⟩
  · skip
    have e2 := ne_n (by omega) (by omega) H2
    refine px_aload_n dX3_fitTogether_5 rfl rfl ?_
    refine cx_get (k := 13) (i := κ) (f := 6) dX3_fitTogether_6 gX3_18 rfl (show κ < 2 by omega) rfl ?_
    refine px_iload_n dX3_fitTogether_9 rfl rfl ?_
    refine px_bipush (v := 6) dX3_fitTogether_10 (by decide) ?_
    refine px_imul dX3_fitTogether_12 ?_
    refine px_iload_n dX3_fitTogether_13 rfl rfl ?_
    refine px_iadd dX3_fitTogether_14 ?_
    refine cx_iald (k := 16) (i := κ) (r := (123 + 10 * κ)) (a * 6 + b) dX3_fitTogether_15 rfl (show κ < 2 by omega) (by rw [show (6 : Int32) = nI 6 from rfl, pk_mul, nI_add]) (by omega) (by decide) ?_
    refine px_top (hLO.2.2.2.2 a b ha hb e2) ?_
    refine px_aload_n dX3_fitTogether_16 rfl rfl ?_
    refine cx_get (k := 13) (i := κ) (f := 8) dX3_fitTogether_17 gX3_24 rfl (show κ < 2 by omega) rfl ?_
    refine px_iload_n dX3_fitTogether_20 rfl rfl ?_
    refine cx_iald (k := 18) (i := κ) (r := (125 + 10 * κ)) (q) dX3_fitTogether_21 rfl (show κ < 2 by omega) rfl (by omega) (by decide) ?_
    refine px_top (hLO.2.2.1 q hq) ?_
    refine px_icmp_gt (tgt := 29) dX3_fitTogether_22 (by decide) (fun H22 => ?_) (fun H22 => ?_)
    · skip
      refine px_iconst (v := 0) dX3_fitTogether_29 (by decide) ?_
      refine px_iretZ dX3_fitTogether_30 rfl (by first | rfl | decide) ?_
      exact ⟨by simp [mMeet, *], rfl⟩
    · skip
      refine px_iconst (v := 1) dX3_fitTogether_25 (by decide) ?_
      refine px_goto (tgt := 30) dX3_fitTogether_26 (by decide) ?_
      refine px_iretZ dX3_fitTogether_30 rfl (by first | rfl | decide) ?_
      exact ⟨by simp [mMeet, *], rfl⟩
theorem gv5_upr {S T : MS} {r c p k : Nat} (hk : k < 5) (ht : ∀ h, h < 6 → T r h = gv5 S c p h k) : ∀ h, h < 6 → up2 T r (dg p k) (T r (dg p k) + mTk S c (nI k)) r h = gv5 S c p h (k + 1) := by
  intro h hh
  rw [up2_eq, gv5]
  by_cases e : h = dg p k
  · subst e
    rw [pk_us, if_pos rfl, ht _ (dg_lt p k)]
  · rw [pk_un e, if_neg (fun q => e q.symm), ht h hh, Int32.add_zero]
set_option maxHeartbeats 4000000 in
set_option maxRecDepth 100000 in
theorem lp_fw1 {d : Nat} (hd2 : 2 ≤ d) (G : Gt) (m : Nat → Prop) (M0 : Nat → va_E) (Q : Qt) (S : MS) (κ n c p : Nat) (U : MS) (hκ : κ < 2) (hLO : LO S κ U n c) (hn : n ≤ 6) (hp : p < 7776) (K : ∀ T : MS, fr (scK κ) S T → (∀ k, k < 5 → T (126 + 10 * κ) k = nI (dg p k)) → (∀ h, h < 6 → T (122 + 10 * κ) h = gv5 U c p h 5) → (∀ k, k < 5 → dg p k < n) → PX G (CPic G m M0 Q) d Y3_firstWrong 70 [some (.ref (Q.1 13 κ)), some (.int (nI p)), some (.int (nI 5))] [] T 0 0 (ri (fun x S' => x = jd U n c p ∧ fr (scK κ) S S'))) : ∀ (kk i : Nat) (T : MS), fr (scK κ) S T → (∀ k, k < i → T (126 + 10 * κ) k = nI (dg p k)) → (∀ h, h < 6 → T (122 + 10 * κ) h = gv5 U c p h i) → (∀ k, k < i → dg p k < n) → i ≤ 5 → 6 ≤ i + kk → PX G (CPic G m M0 Q) d Y3_firstWrong 10 [some (.ref (Q.1 13 κ)), some (.int (nI p)), some (.int (nI i))] [] T 0 0 (ri (fun x S' => x = jd U n c p ∧ fr (scK κ) S S')) := by
  intro kk
  induction kk with
  | zero => intro i T h1 h2 h3 h4 h5; omega
  | succ kk ih =>
    intro i T hf hd hg hb hi hk
    refine px_iload_n dX3_firstWrong_10 rfl rfl ?_
    refine px_iconst (v := 5) dX3_firstWrong_11 (by decide) ?_
    refine px_icmp_ge (tgt := 70) dX3_firstWrong_12 (by decide) (fun H12 => ?_) (fun H12 => ?_)
    · skip
      have e5 : i = 5 := by have := ge_n (a := i) (b := 5) (by omega) (by omega) H12; omega
      subst e5
      exact K T hf hd hg hb
    · skip
      have l5 : i < 5 := lt_n (a := i) (b := 5) (by omega) (by omega) H12
      have d6 := dg_lt p i
      refine px_aload_n dX3_firstWrong_15 rfl rfl ?_
      refine cx_get (k := 13) (i := κ) (f := 9) dX3_firstWrong_16 gX3_27 rfl (show κ < 2 by omega) rfl ?_
      refine px_iload_n dX3_firstWrong_19 rfl rfl ?_
      refine px_iload_n dX3_firstWrong_20 rfl rfl ?_
      refine px_iload_n dX3_firstWrong_21 rfl rfl ?_
      refine px_pureN2 dX3_firstWrong_22 lX3_60 (c_X11_hankOf G p i hp l5) (by omega) (Nat.le_of_ble_eq_true rfl) ?_
      refine cx_iast (k := 19) (i := κ) (r := (126 + 10 * κ)) (i) dX3_firstWrong_25 (fun _ _ => rfl) (show κ < 2 by omega) (by omega) (ow_120 (by omega) _).2.2.2.2.2.2 rfl (by omega) (by decide) ?_
      generalize hT1 : up2 T (126 + 10 * κ) i (nI (dg p i)) = T1
      have f1' : fr (scK κ) S T1 := by rw [← hT1]; exact hf.up (by simp [scK])
      have p1 : ∀ k, k < i + 1 → T1 (126 + 10 * κ) k = nI (dg p k) := fun k hk => by
        rw [← hT1, up2_eq]
        by_cases e : k = i
        · subst e; exact pk_us
        · rw [pk_un e]; exact hd k (by omega)
      have g1 : ∀ h, h < 6 → T1 (122 + 10 * κ) h = gv5 U c p h i := fun h hh => by rw [← hT1, up2_ne (by omega)]; exact hg h hh
      have L1 := hLO.frK f1'
      refine px_aload_n dX3_firstWrong_26 rfl rfl ?_
      refine cx_get (k := 13) (i := κ) (f := 9) dX3_firstWrong_27 gX3_27 rfl (show κ < 2 by omega) rfl ?_
      refine px_iload_n dX3_firstWrong_30 rfl rfl ?_
      refine cx_iald (k := 19) (i := κ) (r := (126 + 10 * κ)) (i) dX3_firstWrong_31 rfl (show κ < 2 by omega) rfl (by omega) (by decide) ?_
      refine px_top (p1 i (by omega)) ?_
      refine px_aload_n dX3_firstWrong_32 rfl rfl ?_
      refine cx_get (k := 13) (i := κ) (f := 3) dX3_firstWrong_33 gX3_36 rfl (show κ < 2 by omega) rfl ?_
      refine px_icmp_lt (tgt := 44) dX3_firstWrong_36 (by decide) (fun H36 => ?_) (fun H36 => ?_)
      · skip
        rw [L1.1] at H36
        have b22 := lt_n (by omega) (by omega) H36
        refine px_aload_n dX3_firstWrong_44 rfl rfl ?_
        refine cx_get (k := 13) (i := κ) (f := 5) dX3_firstWrong_45 gX3_15 rfl (show κ < 2 by omega) rfl ?_
        refine px_aload_n dX3_firstWrong_48 rfl rfl ?_
        refine cx_get (k := 13) (i := κ) (f := 9) dX3_firstWrong_49 gX3_27 rfl (show κ < 2 by omega) rfl ?_
        refine px_iload_n dX3_firstWrong_52 rfl rfl ?_
        refine cx_iald (k := 19) (i := κ) (r := (126 + 10 * κ)) (i) dX3_firstWrong_53 rfl (show κ < 2 by omega) rfl (by omega) (by decide) ?_
        refine px_top (p1 i (by omega)) ?_
        refine px_dup2 dX3_firstWrong_54 rfl rfl ?_
        refine cx_iald (k := 15) (i := κ) (r := (122 + 10 * κ)) (dg p i) dX3_firstWrong_55 rfl (show κ < 2 by omega) rfl (by omega) (by decide) ?_
        refine px_aload_n dX3_firstWrong_56 rfl rfl ?_
        refine cx_get (k := 13) (i := κ) (f := 7) dX3_firstWrong_57 gX3_21 rfl (show κ < 2 by omega) rfl ?_
        refine px_iload_n dX3_firstWrong_60 rfl rfl ?_
        refine cx_iald (k := 17) (i := κ) (r := (124 + 10 * κ)) (i) dX3_firstWrong_61 rfl (show κ < 2 by omega) rfl (by omega) (by decide) ?_
        refine px_top (L1.2.1 i l5) ?_
        refine px_iadd dX3_firstWrong_62 ?_
        refine cx_iast (k := 15) (i := κ) (r := (122 + 10 * κ)) (dg p i) dX3_firstWrong_63 (fun _ _ => rfl) (show κ < 2 by omega) (by omega) (ow_120 (by omega) _).2.2.1 rfl (by omega) (by decide) ?_
        refine px_iinc_2 (v := 1) dX3_firstWrong_64 (by decide) (by decide) rfl ?_
        refine px_goto (tgt := 10) dX3_firstWrong_67 (by decide) ?_
        rw [nI_1]
        refine ih (i + 1) _ (f1'.up (by simp [scK])) (fun k hk => ?_) (gv5_upr l5 g1) (fun k hk => ?_) (by omega) (by omega)
        · rw [up2_ne (by omega)]; exact p1 k hk
        · rcases Nat.lt_or_ge k i with q | q
          · exact hb k q
          · rw [show k = i by omega]; exact b22
      · skip
        rw [L1.1] at H36
        have b22 := ge_n (by omega) (by omega) H36
        have e22 : f1 (w1 p n) 5 = i := f1_yes l5 (by simp [w1, b22]) (fun k hk => by have := hb k hk; simp [w1]; omega)
        refine px_bipush (v := 10) dX3_firstWrong_39 (by decide) ?_
        refine px_iload_n dX3_firstWrong_41 rfl rfl ?_
        refine px_iadd dX3_firstWrong_42 ?_
        refine px_iretI dX3_firstWrong_43 rfl ?_
        exact ⟨by rw [jd, e22, if_pos l5, show (10 : Int32) = nI 10 from rfl, nI_add], f1'⟩
set_option maxHeartbeats 4000000 in
set_option maxRecDepth 100000 in
theorem lp_fw2 {d : Nat} (G : Gt) (m : Nat → Prop) (M0 : Nat → va_E) (Q : Qt) (S : MS) (κ n c p : Nat) (U : MS) (hκ : κ < 2) (hLO : LO S κ U n c) (hn : n ≤ 6) (hp : p < 7776) (hb1 : ∀ k, k < 5 → dg p k < n) (K : ∀ T : MS, fr (scK κ) S T → (∀ k, k < 5 → T (126 + 10 * κ) k = nI (dg p k)) → (∀ h, h < n → ¬ U 2 h < gvn U c p h) → PX G (CPic G m M0 Q) d Y3_firstWrong 106 [some (.ref (Q.1 13 κ)), some (.int (nI p)), some (.int (nI n))] [] T 0 0 (ri (fun x S' => x = jd U n c p ∧ fr (scK κ) S S'))) : ∀ (kk i : Nat) (T : MS), fr (scK κ) S T → (∀ k, k < 5 → T (126 + 10 * κ) k = nI (dg p k)) → (∀ h, h < 6 → T (122 + 10 * κ) h = gvn U c p h) → (∀ h, h < i → ¬ U 2 h < gvn U c p h) → i ≤ n → n + 1 ≤ i + kk → PX G (CPic G m M0 Q) d Y3_firstWrong 72 [some (.ref (Q.1 13 κ)), some (.int (nI p)), some (.int (nI i))] [] T 0 0 (ri (fun x S' => x = jd U n c p ∧ fr (scK κ) S S')) := by
  intro kk
  induction kk with
  | zero => intro i T h1 h2 h3 h4 h5 h6; omega
  | succ kk ih =>
    intro i T hf hd hg hb hi hk
    have L1 := hLO.frK hf
    refine px_iload_n dX3_firstWrong_72 rfl rfl ?_
    refine px_aload_n dX3_firstWrong_73 rfl rfl ?_
    refine cx_get (k := 13) (i := κ) (f := 3) dX3_firstWrong_74 gX3_36 rfl (show κ < 2 by omega) rfl ?_
    refine px_icmp_ge (tgt := 106) dX3_firstWrong_77 (by decide) (fun H77 => ?_) (fun H77 => ?_)
    · skip
      rw [L1.1] at H77
      have e5 : i = n := by have := ge_n (by omega) (by omega) H77; omega
      rw [e5]
      rw [e5] at hb
      exact K T hf hd hb
    · skip
      rw [L1.1] at H77
      have l5 : i < n := lt_n (by omega) (by omega) H77
      refine px_aload_n dX3_firstWrong_80 rfl rfl ?_
      refine cx_get (k := 13) (i := κ) (f := 5) dX3_firstWrong_81 gX3_15 rfl (show κ < 2 by omega) rfl ?_
      refine px_iload_n dX3_firstWrong_84 rfl rfl ?_
      refine cx_iald (k := 15) (i := κ) (r := (122 + 10 * κ)) (i) dX3_firstWrong_85 rfl (show κ < 2 by omega) rfl (by omega) (by decide) ?_
      refine px_top (hg i (by omega)) ?_
      refine px_aload_n dX3_firstWrong_86 rfl rfl ?_
      refine cx_get (k := 13) (i := κ) (f := 4) dX3_firstWrong_87 gX3_9 rfl (show κ < 2 by omega) rfl ?_
      refine px_iload_n dX3_firstWrong_90 rfl rfl ?_
      refine cx_iald (k := 14) (i := κ) (r := (121 + 10 * κ)) (i) dX3_firstWrong_91 rfl (show κ < 2 by omega) rfl (by omega) (by decide) ?_
      refine px_top (L1.2.2.2.1 i l5) ?_
      refine px_icmp_le (tgt := 100) dX3_firstWrong_92 (by decide) (fun H92 => ?_) (fun H92 => ?_)
      · skip
        have h92 := fa_of_nlt H92
        refine px_iinc_2 (v := 1) dX3_firstWrong_100 (by decide) (by decide) rfl ?_
        refine px_goto (tgt := 72) dX3_firstWrong_103 (by decide) ?_
        rw [nI_1]
        refine ih (i + 1) T hf hd hg (fun k hk => ?_) (by omega) (by omega)
        rcases Nat.lt_or_ge k i with q | q
        · exact hb k q
        · rw [show k = i by omega]; exact H92
      · skip
        refine px_bipush (v := 20) dX3_firstWrong_95 (by decide) ?_
        refine px_iload_n dX3_firstWrong_97 rfl rfl ?_
        refine px_iadd dX3_firstWrong_98 ?_
        refine px_iretI dX3_firstWrong_99 rfl ?_
        have e1 : f1 (w1 p n) 5 = 5 := f1_no (fun k hk => by have := hb1 k hk; simp [w1]; omega)
        have e2 : f1 (w2 U c p) n = i := f1_yes l5 (by simp [w2, H92]) (fun k hk => by have := hb k hk; simp [w2, this])
        exact ⟨by rw [jd, e1, if_neg (by omega), e2, if_pos l5, show (20 : Int32) = nI 20 from rfl, nI_add], hf⟩
set_option maxHeartbeats 4000000 in
set_option maxRecDepth 100000 in
theorem lp_fw3 {d : Nat} (hd2 : 2 ≤ d) (G : Gt) (m : Nat → Prop) (M0 : Nat → va_E) (Q : Qt) (S : MS) (κ n c p : Nat) (U : MS) (hκ : κ < 2) (hLO : LO S κ U n c) (hn : n ≤ 6) (hp : p < 7776) (hb1 : ∀ k, k < 5 → dg p k < n) (hb2 : ∀ h, h < n → ¬ U 2 h < gvn U c p h) : ∀ (kk i : Nat) (T : MS), fr (scK κ) S T → (∀ k, k < 5 → T (126 + 10 * κ) k = nI (dg p k)) → (∀ q, q < i → ¬ mMeet U c (nI q) (dg p (oN q)) (dg p (tN2 q)) = 0) → i ≤ 6 → 7 ≤ i + kk → PX G (CPic G m M0 Q) d Y3_firstWrong 108 [some (.ref (Q.1 13 κ)), some (.int (nI p)), some (.int (nI i))] [] T 0 0 (ri (fun x S' => x = jd U n c p ∧ fr (scK κ) S S')) := by
  intro kk
  induction kk with
  | zero => intro i T h1 h2 h3 h4 h5; omega
  | succ kk ih =>
    intro i T hf hd hb hi hk
    have L1 := hLO.frK hf
    have e1 : f1 (w1 p n) 5 = 5 := f1_no (fun k hk => by have := hb1 k hk; simp [w1]; omega)
    have e2 : f1 (w2 U c p) n = n := f1_no (fun k hk => by have := hb2 k hk; simp [w2, this])
    refine px_iload_n dX3_firstWrong_108 rfl rfl ?_
    refine px_bipush (v := 6) dX3_firstWrong_109 (by decide) ?_
    refine px_icmp_ge (tgt := 153) dX3_firstWrong_111 (by decide) (fun H111 => ?_) (fun H111 => ?_)
    · skip
      have e5 : i = 6 := by have := ge_n (a := i) (b := 6) (by omega) (by omega) H111; omega
      subst e5
      refine px_iconst (v := (-1)) dX3_firstWrong_153 (by decide) ?_
      refine px_iretI dX3_firstWrong_154 rfl ?_
      have e3 : f1 (w3 U c p) 6 = 6 := f1_no (fun k hk => by have := hb k hk; simp [w3, this])
      exact ⟨by rw [jd, e1, if_neg (by omega), e2, if_neg (by omega), e3, if_neg (by omega)], hf⟩
    · skip
      have l5 : i < 6 := lt_n (a := i) (b := 6) (by omega) (by omega) H111
      have ob := oN_lt l5
      refine px_aload_n dX3_firstWrong_114 rfl rfl ?_
      refine px_iload_n dX3_firstWrong_115 rfl rfl ?_
      refine px_aload_n dX3_firstWrong_116 rfl rfl ?_
      refine cx_get (k := 13) (i := κ) (f := 9) dX3_firstWrong_117 gX3_27 rfl (show κ < 2 by omega) rfl ?_
      refine px_low dX3_firstWrong_120 (by decide +kernel) ?_
      refine px_iload_n dX3_firstWrong_123 rfl rfl ?_
      refine px_lowL i dX3_firstWrong_124 rfl l5 (lowN l5) ?_
      refine cx_iald (k := 19) (i := κ) (r := (126 + 10 * κ)) (oN i) dX3_firstWrong_125 rfl (show κ < 2 by omega) rfl (by omega) (by decide) ?_
      refine px_top (hd _ ob.1) ?_
      refine px_aload_n dX3_firstWrong_126 rfl rfl ?_
      refine cx_get (k := 13) (i := κ) (f := 9) dX3_firstWrong_127 gX3_27 rfl (show κ < 2 by omega) rfl ?_
      refine px_high dX3_firstWrong_130 (by decide +kernel) ?_
      refine px_iload_n dX3_firstWrong_133 rfl rfl ?_
      refine px_highL i dX3_firstWrong_134 rfl l5 (highN l5) ?_
      refine cx_iald (k := 19) (i := κ) (r := (126 + 10 * κ)) (tN2 i) dX3_firstWrong_135 rfl (show κ < 2 by omega) rfl (by omega) (by decide) ?_
      refine px_top (hd _ ob.2) ?_
      refine cx_callI3 (k := 13) (i := κ) dX3_firstWrong_136 lX3_70 rfl (show κ < 2 by omega) rfl (c_X3_fitTogether G m M0 Q T κ n c i (dg p (oN i)) (dg p (tN2 i)) U (d := 1) hκ L1 hn l5 (hb1 _ ob.1) (hb1 _ ob.2)) (by omega) (Nat.le_of_ble_eq_true rfl) (fun x136 S136 Q136 => ?_)
      obtain ⟨rfl, e136⟩ := Q136
      obtain rfl := e136.symm
      refine px_if_ne (tgt := 147) dX3_firstWrong_139 (by decide) (fun H139 => ?_) (fun H139 => ?_)
      · skip
        refine px_iinc_2 (v := 1) dX3_firstWrong_147 (by decide) (by decide) rfl ?_
        refine px_goto (tgt := 108) dX3_firstWrong_150 (by decide) ?_
        rw [nI_1]
        refine ih (i + 1) _ hf hd (fun k hk => ?_) (by omega) (by omega)
        rcases Nat.lt_or_ge k i with q | q
        · exact hb k q
        · rw [show k = i by omega]; exact H139
      · skip
        refine px_bipush (v := 40) dX3_firstWrong_142 (by decide) ?_
        refine px_iload_n dX3_firstWrong_144 rfl rfl ?_
        refine px_iadd dX3_firstWrong_145 ?_
        refine px_iretI dX3_firstWrong_146 rfl ?_
        have e3 : f1 (w3 U c p) 6 = i := f1_yes l5 (by simp [w3, H139]) (fun k hk => by have := hb k hk; simp [w3, this])
        exact ⟨by rw [jd, e1, if_neg (by omega), e2, if_neg (by omega), e3, if_pos l5, show (40 : Int32) = nI 40 from rfl, nI_add], hf⟩
set_option maxHeartbeats 4000000 in
set_option maxRecDepth 100000 in
theorem c_X3_firstWrong (G : Gt) (m : Nat → Prop) (M0 : Nat → va_E) (Q : Qt) (S : MS) (κ n c p : Nat) (U : MS) (hκ : κ < 2) (hLO : LO S κ U n c) (hn : n ≤ 6) (hp : p < 7776) : PC G (CPic G m M0 Q) 2 Y3_firstWrong [.ref (Q.1 13 κ), .int (nI p)] S 0 0 (ri (fun x S' => x = jd U n c p ∧ fr (scK κ) S S')) := by
  refine pc_of (ls := [some (.ref (Q.1 13 κ)), some (.int (nI p)), none]) (by decide +kernel) rfl (Nat.le_of_ble_eq_true rfl) ?_
  refine px_aload_n dX3_firstWrong_0 rfl rfl ?_
  refine cx_get (k := 13) (i := κ) (f := 5) dX3_firstWrong_1 gX3_15 rfl (show κ < 2 by omega) rfl ?_
  refine px_iconst (v := 0) dX3_firstWrong_4 (by decide) ?_
  refine px_callSV (P := fun S' => S' = setA S (122 + 10 * κ) (fa_fill (fun _ => 0) (S (122 + 10 * κ)) 6)) dX3_firstWrong_5 lX3_54 (av := [.ref (Q.1 15 κ), .int 0]) rfl rfl (c_fill G m M0 Q S 15 κ (122 + 10 * κ) 6 0 (fun _ _ => rfl) hκ (by omega) (fun _ => (ow_120 hκ _).2.2.1) (by decide)) (by decide) (Nat.le_of_ble_eq_true rfl) (fun S5 Q5 => ?_)
  obtain rfl := Q5.symm
  refine px_iconst (v := 0) dX3_firstWrong_8 (by decide) ?_
  refine px_istore_n2 dX3_firstWrong_9 (by decide) rfl ?_
  refine lp_fw1 (by decide) G m M0 Q S κ n c p U hκ hLO hn hp (fun T1 f1 d1 g1 hb1 => ?_) 6 0 _ (fr_set (by simp [scK])) (fun k hk => by omega) (fun h hh => by rw [setA_eq, fa_fill_in hh]; rfl) (fun k hk => by omega) (by omega) (by omega)
  refine px_iconst (v := 0) dX3_firstWrong_70 (by decide) ?_
  refine px_istore_n2 dX3_firstWrong_71 (by decide) rfl ?_
  refine lp_fw2 G m M0 Q S κ n c p U hκ hLO hn hp hb1 (fun T2 f2 d2 hb2 => ?_) (n + 1) 0 T1 f1 d1 g1 (fun k hk => by omega) (by omega) (by omega)
  refine px_iconst (v := 0) dX3_firstWrong_106 (by decide) ?_
  refine px_istore_n2 dX3_firstWrong_107 (by decide) rfl ?_
  exact lp_fw3 (by decide) G m M0 Q S κ n c p U hκ hLO hn hp hb1 hb2 7 0 T2 f2 d2 (fun k hk => by omega) (by omega) (by omega)
theorem tkF_up {S U : MS} {ro c p k : Nat} : up2 (setA S ro (tkF U c p 1 k)) ro (dg p k) (tkF U c p 1 k (dg p k) - mTk U c (nI k)) = setA S ro (tkF U c p 1 (k + 1)) := by
  rw [setA_up, tkF, Int32.one_mul]
theorem tkF_0 {S U : MS} {ro c p : Nat} (h : U 2 = S ro) : setA S ro (tkF U c p 1 0) = S := by
  show setA S ro (U 2) = S
  rw [h, setA_id]
set_option maxHeartbeats 4000000 in
set_option maxRecDepth 100000 in
theorem lp_tka (G : Gt) (m : Nat → Prop) (M0 : Nat → va_E) (Q : Qt) (S : MS) (κ n c p ko io ro : Nat) (U : MS) (hκ : κ < 2) (hLO : LO S κ U n c) (hn : n ≤ 6) (hp : p < 7776) (hO : ∀ S' : MS, cE G Q S' ko io = .inl (gC G 0, 6, .inl (S' ro))) (hol : io < lim Q ko) (hor : ro ≠ 7 ∧ ro ≠ 160) (hoo : ∀ j, ow ro j = (ko, io)) (hro : ro < 110) (Post : Option Value → MS → Prop) (K : PX G (CPic G m M0 Q) 2 Y3_takeAway 29 [some (.ref (Q.1 13 κ)), some (.int (nI p)), some (.ref (Q.1 ko io)), some (.int (nI 5))] [] (setA S ro (tkF U c p 1 5)) 0 0 Post) : ∀ (kk k : Nat), k ≤ 5 → 5 + 1 ≤ k + kk → PX G (CPic G m M0 Q) 2 Y3_takeAway 2 [some (.ref (Q.1 13 κ)), some (.int (nI p)), some (.ref (Q.1 ko io)), some (.int (nI k))] [] (setA S ro (tkF U c p 1 k)) 0 0 Post := by
  intro kk
  induction kk with
  | zero => intro k h1 h2; omega
  | succ kk ih =>
    intro k h1 h2
    refine px_iload_n dX3_takeAway_2 rfl rfl ?_
    refine px_iconst (v := 5) dX3_takeAway_3 (by decide) ?_
    refine px_icmp_ge (tgt := 29) dX3_takeAway_4 (by decide) (fun H4 => ?_) (fun H4 => ?_)
    · skip
      skip
      have eN : k = 5 := by have := ge_n (a := k) (b := 5) (by omega) (by omega) H4; omega
      rw [eN]
      exact K
    · skip
      skip
      have lN : k < 5 := lt_n (a := k) (b := 5) (by omega) (by omega) H4
      refine px_aload_n dX3_takeAway_7 rfl rfl ?_
      refine px_iload_n dX3_takeAway_8 rfl rfl ?_
      refine px_iload_n dX3_takeAway_9 rfl rfl ?_
      refine px_pureN2 dX3_takeAway_10 lX3_60 (c_X11_hankOf G p k hp lN) (by decide) (Nat.le_of_ble_eq_true rfl) ?_
      have d6 := dg_lt p k
      refine px_dup2 dX3_takeAway_13 rfl rfl ?_
      refine cx_iald (k := ko) (i := io) (r := ro) (dg p k) dX3_takeAway_14 (hO _) hol rfl (by omega) (by decide) ?_
      rw [show setA S ro (tkF U c p 1 k) ro = tkF U c p 1 k from setA_eq]
      refine px_aload_n dX3_takeAway_15 rfl rfl ?_
      refine cx_get (k := 13) (i := κ) (f := 7) dX3_takeAway_16 gX3_21 rfl (show κ < 2 by omega) rfl ?_
      refine px_iload_n dX3_takeAway_19 rfl rfl ?_
      refine cx_iald (k := 17) (i := κ) (r := (124 + 10 * κ)) (k) dX3_takeAway_20 rfl (show κ < 2 by omega) rfl (by omega) (by decide) ?_
      rw [show setA S ro (tkF U c p 1 k) (124 + 10 * κ) = S (124 + 10 * κ) from setA_ne (by omega), hLO.2.1 k lN]
      refine px_isub dX3_takeAway_21 ?_
      refine cx_iast (k := ko) (i := io) (r := ro) (dg p k) dX3_takeAway_22 (fun S' _ => hO S') hol hor (hoo _) rfl (by omega) (by decide) ?_
      refine px_iinc_3 (v := 1) dX3_takeAway_23 (by decide) (by decide) rfl ?_
      refine px_goto (tgt := 2) dX3_takeAway_26 (by decide) ?_
      refine px_lw (ls' := [some (.ref (Q.1 13 κ)), some (.int (nI p)), some (.ref (Q.1 ko io)), some (.int (nI (k + 1)))]) ?_ (px_S (S' := setA S ro (tkF U c p 1 (k + 1))) ?_ (ih (k + 1) (by omega) (by omega)))
      · (simp [LW, LW, nI_1, *]; done)
      · exact tkF_up
set_option maxHeartbeats 4000000 in
set_option maxRecDepth 100000 in
theorem c_X3_takeAway (G : Gt) (m : Nat → Prop) (M0 : Nat → va_E) (Q : Qt) (S : MS) (κ n c p ko io ro : Nat) (U : MS) (hκ : κ < 2) (hLO : LO S κ U n c) (hn : n ≤ 6) (hp : p < 7776) (hO : ∀ S' : MS, cE G Q S' ko io = .inl (gC G 0, 6, .inl (S' ro))) (hol : io < lim Q ko) (hor : ro ≠ 7 ∧ ro ≠ 160) (hoo : ∀ j, ow ro j = (ko, io)) (hro : ro < 110) (hU : U 2 = S ro) : PC G (CPic G m M0 Q) 2 Y3_takeAway [.ref (Q.1 13 κ), .int (nI p), .ref (Q.1 ko io)] S 0 0 (rv (fun S' => S' = setA S ro (tkF U c p 1 5))) := by
  refine pc_of (ls := [some (.ref (Q.1 13 κ)), some (.int (nI p)), some (.ref (Q.1 ko io)), none]) (by decide +kernel) rfl (Nat.le_of_ble_eq_true rfl) ?_
  refine px_iconst (v := 0) dX3_takeAway_0 (by decide) ?_
  refine px_istore_n3 dX3_takeAway_1 (by decide) rfl ?_
  refine px_S (tkF_0 (c := c) (p := p) hU).symm ?_
  refine lp_tka G m M0 Q S κ n c p ko io ro U hκ hLO hn hp hO hol hor hoo hro _ ?_ 6 0 (by omega) (by omega)
  refine px_return dX3_takeAway_29 rfl ?_
  exact rfl
