/-! THE REFERENCE: loops over hanks and coats; the image -/
theorem px_ls {σ : Type} {G : Gt} {Pic : σ → Ht → Prop} {d : Nat} {Y : Yt} {pc : Nat} {ls ls' : List (Option Value)} {st : List Value} {S : σ} {mc ms : Nat} {Post : Option Value → σ → Prop} (e : ls = ls') (k : PX G Pic d Y pc ls' st S mc ms Post) : PX G Pic d Y pc ls st S mc ms Post := e ▸ k
theorem px_S {σ : Type} {G : Gt} {Pic : σ → Ht → Prop} {d : Nat} {Y : Yt} {pc : Nat} {ls : List (Option Value)} {st : List Value} {S S' : σ} {mc ms : Nat} {Post : Option Value → σ → Prop} (e : S = S') (k : PX G Pic d Y pc ls st S' mc ms Post) : PX G Pic d Y pc ls st S mc ms Post := e ▸ k
theorem px_st {σ : Type} {G : Gt} {Pic : σ → Ht → Prop} {d : Nat} {Y : Yt} {pc : Nat} {ls : List (Option Value)} {st st' : List Value} {S : σ} {mc ms : Nat} {Post : Option Value → σ → Prop} (e : st = st') (k : PX G Pic d Y pc ls st' S mc ms Post) : PX G Pic d Y pc ls st S mc ms Post := e ▸ k
/-- less is known -/
def LW : List (Option Value) → List (Option Value) → Prop
  | _, [] => True
  | [], _ :: _ => False
  | a :: l, b :: l' => (b = none ∨ a = b) ∧ LW l l'
theorem LW.at : ∀ {l l' : List (Option Value)}, LW l l' → ∀ (i : Nat) (v : Value), l'[i]? = some (some v) → l[i]? = some (some v)
  | _, [], _, i, v, h => by simp at h
  | [], _ :: _, h, _, _, _ => h.elim
  | a :: l, b :: l', h, 0, v, hv => by
    rw [List.getElem?_cons_zero] at hv ⊢
    rcases h.1 with e | e
    · rw [e] at hv; cases hv
    · rw [e]; exact hv
  | a :: l, b :: l', h, i + 1, v, hv => by
    rw [List.getElem?_cons_succ] at hv ⊢
    exact LW.at h.2 i v hv
theorem px_lw {σ : Type} {G : Gt} {Pic : σ → Ht → Prop} {d : Nat} {Y : Yt} {pc : Nat} {ls ls' : List (Option Value)} {st : List Value} {S : σ} {mc ms : Nat} {Post : Option Value → σ → Prop} (e : LW ls ls') (k : PX G Pic d Y pc ls' st S mc ms Post) : PX G Pic d Y pc ls st S mc ms Post :=
  fun h hp p en R s m args below meth c Q H locs cells slots jl ac hh hS hl hc hs kr => k h hp p en R s m args below meth c Q H locs cells slots jl ac hh hS ⟨hl.1, hl.2.1, fun i v hv => hl.2.2 i v (e.at i v hv)⟩ hc hs kr
def mAllS (S : MS) : Nat → Int32
  | 0 => 0
  | k + 1 => mAllS S k + S 2 k
def mDoneS (S : MS) : Nat → Int32
  | 0 => 0
  | c + 1 => mDoneS S c + (if S 11 c = 0 then 0 else 1)
def mLast (S : MS) : Nat → Int32
  | 0 => 0
  | c + 1 => if S 11 c = 0 then mLast S c else if mLast S c < S 13 c then S 13 c else mLast S c
def mBy (S : MS) (day : Int32) (c : Nat) : Int32 := (if S 11 c = 0 then day else S 13 c) - S 9 c
def mLate (S : MS) (day : Int32) : Nat → Int32
  | 0 => 0
  | c + 1 => if S 7 c = 4 then (if 0 < mBy S day c then mLate S day c + mBy S day c else mLate S day c) else mLate S day c
def f_late (S : MS) (day : Int32) : Int32 := if mIn day 0 99 = 0 then -2 else mLate S day (cN S)
def setA (S : MS) (k : Nat) (f : Nat → Int32) : MS := fun k' => if k' = k then f else S k'
theorem setA_eq {S : MS} {k : Nat} {f : Nat → Int32} : setA S k f k = f := if_pos rfl
theorem setA_ne {S : MS} {k k' : Nat} {f : Nat → Int32} (h : k' ≠ k) : setA S k f k' = S k' := if_neg h
theorem setA_up {S : MS} {k i : Nat} {f : Nat → Int32} {x : Int32} : up2 (setA S k f) k i x = setA S k (upd f i x) := by
  funext q
  by_cases h : q = k
  · subst h; rw [up2_eq, setA_eq, setA_eq]
  · rw [up2_ne h, setA_ne h, setA_ne h]
theorem setA_id {S : MS} {k : Nat} : setA S k (S k) = S := by
  funext q
  by_cases h : q = k
  · subst h; rw [setA_eq]
  · rw [setA_ne h]
theorem setA_up_ne {S : MS} {k j i : Nat} {f : Nat → Int32} {x : Int32} (h : j ≠ k) : up2 (setA S k f) j i x = setA (up2 S j i x) k f := by
  funext q
  by_cases h1 : q = k
  · subst h1; rw [up2_ne (Ne.symm h), setA_eq, setA_eq]
  · rw [setA_ne h1]
    by_cases h2 : q = j
    · subst h2; rw [up2_eq, up2_eq, setA_ne h1]
    · rw [up2_ne h2, up2_ne h2, setA_ne h1]
theorem fill0 (f g : Nat → Int32) : fa_fill f g 0 = g := fa_fill_0 f g
set_option maxHeartbeats 4000000 in
set_option maxRecDepth 100000 in
theorem lp_X12_allOunces (G : Gt) (m : Nat) (h0 : Ht) (S : MS)  (n : Nat) (hH : S 1 0 = nI n) (hn : n ≤ 6) (Post : Option Value → MS → Prop) (K : PX G (MPic G m h0) 1 Y12_allOunces 27 [some (.ref m), some (.int (mAllS S n)), some (.int (nI n))] [] (S) 0 0 Post) : ∀ (kk i : Nat), i ≤ n → n + 1 ≤ i + kk → PX G (MPic G m h0) 1 Y12_allOunces 4 [some (.ref m), some (.int (mAllS S i)), some (.int (nI i))] [] (S) 0 0 Post := by
  intro kk
  induction kk with
  | zero => intro i h1 h2; omega
  | succ kk ih =>
    intro i h1 h2
    refine px_iload_n dX12_allOunces_4 rfl rfl ?_
    refine px_aload_n dX12_allOunces_5 rfl rfl ?_
    refine mx_getI (k := 1) dX12_allOunces_6 gX12_106 (fun _ => rfl) ?_
    refine px_icmp_ge (tgt := 27) dX12_allOunces_9 (by decide) (fun H9 => ?_) (fun H9 => ?_)
    · skip
      rw [hH] at H9
      have eN : i = n := by have := ge_n (a := i) (b := n) (by omega) (by omega) H9; omega
      rw [eN]
      exact K
    · skip
      rw [hH] at H9
      have lN : i < n := lt_n (a := i) (b := n) (by omega) (by omega) H9
      refine px_iload_n dX12_allOunces_12 rfl rfl ?_
      refine px_aload_n dX12_allOunces_13 rfl rfl ?_
      refine mx_getA (k := 2) (j := 0) dX12_allOunces_14 gX12_7 (fun _ => rfl) ?_
      refine px_iload_n dX12_allOunces_17 rfl rfl ?_
      refine mx_iald (j := 0) (k := 2) _ dX12_allOunces_18 rfl rfl (by omega) (by decide) ?_
      refine px_iadd dX12_allOunces_19 ?_
      refine px_istore_n1 dX12_allOunces_20 (by decide) rfl ?_
      refine px_iinc_2 (v := 1) dX12_allOunces_21 (by decide) (by decide) rfl ?_
      refine px_goto (tgt := 4) dX12_allOunces_24 (by decide) ?_
      refine px_lw (ls' := [some (.ref m), some (.int (mAllS S (i + 1))), some (.int (nI (i + 1)))]) ?_ (ih (i + 1) (by omega) (by omega))
      (simp [LW, mAllS, nI_1, *]; done)
set_option maxHeartbeats 4000000 in
set_option maxRecDepth 100000 in
theorem c_X12_allOunces (G : Gt) (m : Nat) (h0 : Ht) (S : MS)  (n : Nat) (hH : S 1 0 = nI n) (hn : n ≤ 6) : PC G (MPic G m h0) 1 Y12_allOunces [.ref m] S 0 0 (ri (fun x S' => x = mAllS S n ∧ S' = S)) := by
  refine pc_of (ls := [some (.ref m), none, none]) (by decide +kernel) rfl (Nat.le_of_ble_eq_true rfl) ?_
  refine px_iconst (v := 0) dX12_allOunces_0 (by decide) ?_
  refine px_istore_n1 dX12_allOunces_1 (by decide) rfl ?_
  refine px_iconst (v := 0) dX12_allOunces_2 (by decide) ?_
  refine px_istore_n2 dX12_allOunces_3 (by decide) rfl ?_
  refine lp_X12_allOunces G m h0 S n hH hn _ ?_ (n + 1) 0 (by omega) (by omega)
  refine px_iload_n dX12_allOunces_27 rfl rfl ?_
  refine px_iretI dX12_allOunces_28 rfl ?_
  exact ⟨rfl, rfl⟩
set_option maxHeartbeats 4000000 in
set_option maxRecDepth 100000 in
theorem lp_X12_doneMany (G : Gt) (m : Nat) (h0 : Ht) (S : MS)  (n : Nat) (hC : S 6 0 = nI n) (hn : n ≤ 8) (Post : Option Value → MS → Prop) (K : PX G (MPic G m h0) 1 Y12_doneMany 35 [some (.ref m), some (.int (mDoneS S n)), some (.int (nI n))] [] (S) 0 0 Post) : ∀ (kk i : Nat), i ≤ n → n + 1 ≤ i + kk → PX G (MPic G m h0) 1 Y12_doneMany 4 [some (.ref m), some (.int (mDoneS S i)), some (.int (nI i))] [] (S) 0 0 Post := by
  intro kk
  induction kk with
  | zero => intro i h1 h2; omega
  | succ kk ih =>
    intro i h1 h2
    refine px_iload_n dX12_doneMany_4 rfl rfl ?_
    refine px_aload_n dX12_doneMany_5 rfl rfl ?_
    refine mx_getI (k := 6) dX12_doneMany_6 gX12_113 (fun _ => rfl) ?_
    refine px_icmp_ge (tgt := 35) dX12_doneMany_9 (by decide) (fun H9 => ?_) (fun H9 => ?_)
    · skip
      rw [hC] at H9
      have eN : i = n := by have := ge_n (a := i) (b := n) (by omega) (by omega) H9; omega
      rw [eN]
      exact K
    · skip
      rw [hC] at H9
      have lN : i < n := lt_n (a := i) (b := n) (by omega) (by omega) H9
      refine px_iload_n dX12_doneMany_12 rfl rfl ?_
      refine px_aload_n dX12_doneMany_13 rfl rfl ?_
      refine mx_getA (k := 11) (j := 8) dX12_doneMany_14 gX12_34 (fun _ => rfl) ?_
      refine px_iload_n dX12_doneMany_17 rfl rfl ?_
      refine mx_zald (j := 8) (k := 11) _ dX12_doneMany_18 rfl rfl (by omega) (by decide) ?_
      refine px_if_eq (tgt := 26) dX12_doneMany_19 (by decide) (fun H19 => ?_) (fun H19 => ?_)
      · skip
        refine px_iconst (v := 0) dX12_doneMany_26 (by decide) ?_
        refine px_iadd dX12_doneMany_27 ?_
        refine px_istore_n1 dX12_doneMany_28 (by decide) rfl ?_
        refine px_iinc_2 (v := 1) dX12_doneMany_29 (by decide) (by decide) rfl ?_
        refine px_goto (tgt := 4) dX12_doneMany_32 (by decide) ?_
        refine px_lw (ls' := [some (.ref m), some (.int (mDoneS S (i + 1))), some (.int (nI (i + 1)))]) ?_ (ih (i + 1) (by omega) (by omega))
        (simp [LW, mDoneS, nI_1, *]; done)
      · skip
        refine px_iconst (v := 1) dX12_doneMany_22 (by decide) ?_
        refine px_goto (tgt := 27) dX12_doneMany_23 (by decide) ?_
        refine px_iadd dX12_doneMany_27 ?_
        refine px_istore_n1 dX12_doneMany_28 (by decide) rfl ?_
        refine px_iinc_2 (v := 1) dX12_doneMany_29 (by decide) (by decide) rfl ?_
        refine px_goto (tgt := 4) dX12_doneMany_32 (by decide) ?_
        refine px_lw (ls' := [some (.ref m), some (.int (mDoneS S (i + 1))), some (.int (nI (i + 1)))]) ?_ (ih (i + 1) (by omega) (by omega))
        (simp [LW, mDoneS, nI_1, *]; done)
set_option maxHeartbeats 4000000 in
set_option maxRecDepth 100000 in
theorem c_X12_doneMany (G : Gt) (m : Nat) (h0 : Ht) (S : MS)  (n : Nat) (hC : S 6 0 = nI n) (hn : n ≤ 8) : PC G (MPic G m h0) 1 Y12_doneMany [.ref m] S 0 0 (ri (fun x S' => x = mDoneS S n ∧ S' = S)) := by
  refine pc_of (ls := [some (.ref m), none, none]) (by decide +kernel) rfl (Nat.le_of_ble_eq_true rfl) ?_
  refine px_iconst (v := 0) dX12_doneMany_0 (by decide) ?_
  refine px_istore_n1 dX12_doneMany_1 (by decide) rfl ?_
  refine px_iconst (v := 0) dX12_doneMany_2 (by decide) ?_
  refine px_istore_n2 dX12_doneMany_3 (by decide) rfl ?_
  refine lp_X12_doneMany G m h0 S n hC hn _ ?_ (n + 1) 0 (by omega) (by omega)
  refine px_iload_n dX12_doneMany_35 rfl rfl ?_
  refine px_iretI dX12_doneMany_36 rfl ?_
  exact ⟨rfl, rfl⟩
set_option maxHeartbeats 4000000 in
set_option maxRecDepth 100000 in
theorem lp_X12_lastDay (G : Gt) (m : Nat) (h0 : Ht) (S : MS)  (n : Nat) (hC : S 6 0 = nI n) (hn : n ≤ 8) (Post : Option Value → MS → Prop) (K : PX G (MPic G m h0) 1 Y12_lastDay 44 [some (.ref m), some (.int (mLast S n)), some (.int (nI n))] [] (S) 0 0 Post) : ∀ (kk i : Nat), i ≤ n → n + 1 ≤ i + kk → PX G (MPic G m h0) 1 Y12_lastDay 4 [some (.ref m), some (.int (mLast S i)), some (.int (nI i))] [] (S) 0 0 Post := by
  intro kk
  induction kk with
  | zero => intro i h1 h2; omega
  | succ kk ih =>
    intro i h1 h2
    refine px_iload_n dX12_lastDay_4 rfl rfl ?_
    refine px_aload_n dX12_lastDay_5 rfl rfl ?_
    refine mx_getI (k := 6) dX12_lastDay_6 gX12_113 (fun _ => rfl) ?_
    refine px_icmp_ge (tgt := 44) dX12_lastDay_9 (by decide) (fun H9 => ?_) (fun H9 => ?_)
    · skip
      rw [hC] at H9
      have eN : i = n := by have := ge_n (a := i) (b := n) (by omega) (by omega) H9; omega
      rw [eN]
      exact K
    · skip
      rw [hC] at H9
      have lN : i < n := lt_n (a := i) (b := n) (by omega) (by omega) H9
      refine px_aload_n dX12_lastDay_12 rfl rfl ?_
      refine mx_getA (k := 11) (j := 8) dX12_lastDay_13 gX12_34 (fun _ => rfl) ?_
      refine px_iload_n dX12_lastDay_16 rfl rfl ?_
      refine mx_zald (j := 8) (k := 11) _ dX12_lastDay_17 rfl rfl (by omega) (by decide) ?_
      refine px_if_eq (tgt := 38) dX12_lastDay_18 (by decide) (fun H18 => ?_) (fun H18 => ?_)
      · skip
        refine px_iinc_2 (v := 1) dX12_lastDay_38 (by decide) (by decide) rfl ?_
        refine px_goto (tgt := 4) dX12_lastDay_41 (by decide) ?_
        refine px_lw (ls' := [some (.ref m), some (.int (mLast S (i + 1))), some (.int (nI (i + 1)))]) ?_ (ih (i + 1) (by omega) (by omega))
        (simp [LW, mLast, nI_1, *]; done)
      · skip
        refine px_aload_n dX12_lastDay_21 rfl rfl ?_
        refine mx_getA (k := 13) (j := 10) dX12_lastDay_22 gX12_41 (fun _ => rfl) ?_
        refine px_iload_n dX12_lastDay_25 rfl rfl ?_
        refine mx_iald (j := 10) (k := 13) _ dX12_lastDay_26 rfl rfl (by omega) (by decide) ?_
        refine px_iload_n dX12_lastDay_27 rfl rfl ?_
        refine px_icmp_le (tgt := 38) dX12_lastDay_28 (by decide) (fun H28 => ?_) (fun H28 => ?_)
        · skip
          refine px_iinc_2 (v := 1) dX12_lastDay_38 (by decide) (by decide) rfl ?_
          refine px_goto (tgt := 4) dX12_lastDay_41 (by decide) ?_
          refine px_lw (ls' := [some (.ref m), some (.int (mLast S (i + 1))), some (.int (nI (i + 1)))]) ?_ (ih (i + 1) (by omega) (by omega))
          (simp [LW, mLast, nI_1, *]; done)
        · skip
          refine px_aload_n dX12_lastDay_31 rfl rfl ?_
          refine mx_getA (k := 13) (j := 10) dX12_lastDay_32 gX12_41 (fun _ => rfl) ?_
          refine px_iload_n dX12_lastDay_35 rfl rfl ?_
          refine mx_iald (j := 10) (k := 13) _ dX12_lastDay_36 rfl rfl (by omega) (by decide) ?_
          refine px_istore_n1 dX12_lastDay_37 (by decide) rfl ?_
          refine px_iinc_2 (v := 1) dX12_lastDay_38 (by decide) (by decide) rfl ?_
          refine px_goto (tgt := 4) dX12_lastDay_41 (by decide) ?_
          refine px_lw (ls' := [some (.ref m), some (.int (mLast S (i + 1))), some (.int (nI (i + 1)))]) ?_ (ih (i + 1) (by omega) (by omega))
          (simp [LW, mLast, nI_1, *]; done)
set_option maxHeartbeats 4000000 in
set_option maxRecDepth 100000 in
theorem c_X12_lastDay (G : Gt) (m : Nat) (h0 : Ht) (S : MS)  (n : Nat) (hC : S 6 0 = nI n) (hn : n ≤ 8) : PC G (MPic G m h0) 1 Y12_lastDay [.ref m] S 0 0 (ri (fun x S' => x = mLast S n ∧ S' = S)) := by
  refine pc_of (ls := [some (.ref m), none, none]) (by decide +kernel) rfl (Nat.le_of_ble_eq_true rfl) ?_
  refine px_iconst (v := 0) dX12_lastDay_0 (by decide) ?_
  refine px_istore_n1 dX12_lastDay_1 (by decide) rfl ?_
  refine px_iconst (v := 0) dX12_lastDay_2 (by decide) ?_
  refine px_istore_n2 dX12_lastDay_3 (by decide) rfl ?_
  refine lp_X12_lastDay G m h0 S n hC hn _ ?_ (n + 1) 0 (by omega) (by omega)
  refine px_iload_n dX12_lastDay_44 rfl rfl ?_
  refine px_iretI dX12_lastDay_45 rfl ?_
  exact ⟨rfl, rfl⟩
set_option maxHeartbeats 4000000 in
set_option maxRecDepth 100000 in
theorem lp_late (G : Gt) (m : Nat) (h0 : Ht) (S : MS) (day : Int32) (n : Nat) (hC : S 6 0 = nI n) (hn : n ≤ 8) (Post : Option Value → MS → Prop) (K : PX G (MPic G m h0) 2 Y12_late 82 [some (.ref m), some (.int day), some (.int (mLate S day n)), some (.int (nI n)), none] [] (S) 0 0 Post) : ∀ (kk i : Nat), i ≤ n → n + 1 ≤ i + kk → PX G (MPic G m h0) 2 Y12_late 17 [some (.ref m), some (.int day), some (.int (mLate S day i)), some (.int (nI i)), none] [] (S) 0 0 Post := by
  intro kk
  induction kk with
  | zero => intro i h1 h2; omega
  | succ kk ih =>
    intro i h1 h2
    refine px_iload_n dX12_late_17 rfl rfl ?_
    refine px_aload_n dX12_late_18 rfl rfl ?_
    refine mx_getI (k := 6) dX12_late_19 gX12_113 (fun _ => rfl) ?_
    refine px_icmp_ge (tgt := 82) dX12_late_22 (by decide) (fun H22 => ?_) (fun H22 => ?_)
    · skip
      rw [hC] at H22
      have eN : i = n := by have := ge_n (a := i) (b := n) (by omega) (by omega) H22; omega
      rw [eN]
      exact K
    · skip
      rw [hC] at H22
      have lN : i < n := lt_n (a := i) (b := n) (by omega) (by omega) H22
      refine px_aload_n dX12_late_25 rfl rfl ?_
      refine mx_getA (k := 7) (j := 4) dX12_late_26 gX12_22 (fun _ => rfl) ?_
      refine px_iload_n dX12_late_29 rfl rfl ?_
      refine mx_iald (j := 4) (k := 7) _ dX12_late_30 rfl rfl (by omega) (by decide) ?_
      refine px_iconst (v := 4) dX12_late_31 (by decide) ?_
      refine px_icmp_eq (tgt := 38) dX12_late_32 (by decide) (fun H32 => ?_) (fun H32 => ?_)
      · skip
        refine px_aload_n dX12_late_38 rfl rfl ?_
        refine mx_getA (k := 11) (j := 8) dX12_late_39 gX12_34 (fun _ => rfl) ?_
        refine px_iload_n dX12_late_42 rfl rfl ?_
        refine mx_zald (j := 8) (k := 11) _ dX12_late_43 rfl rfl (by omega) (by decide) ?_
        refine px_if_eq (tgt := 56) dX12_late_44 (by decide) (fun H44 => ?_) (fun H44 => ?_)
        · skip
          refine px_iload_n dX12_late_56 rfl rfl ?_
          refine px_aload_n dX12_late_57 rfl rfl ?_
          refine mx_getA (k := 9) (j := 6) dX12_late_58 gX12_28 (fun _ => rfl) ?_
          refine px_iload_n dX12_late_61 rfl rfl ?_
          refine mx_iald (j := 6) (k := 9) _ dX12_late_62 rfl rfl (by omega) (by decide) ?_
          refine px_isub dX12_late_63 ?_
          refine px_istore_4 dX12_late_64 (by decide) rfl ?_
          refine px_iload dX12_late_66 rfl ?_
          refine px_if_le (tgt := 76) dX12_late_68 (by decide) (fun H68 => ?_) (fun H68 => ?_)
          · skip
            refine px_iinc_3 (v := 1) dX12_late_76 (by decide) (by decide) rfl ?_
            refine px_goto (tgt := 17) dX12_late_79 (by decide) ?_
            refine px_lw (ls' := [some (.ref m), some (.int day), some (.int (mLate S day (i + 1))), some (.int (nI (i + 1))), none]) ?_ (ih (i + 1) (by omega) (by omega))
            (simp [LW, mLate, mBy, nI_1, *]; done)
          · skip
            refine px_iload_n dX12_late_71 rfl rfl ?_
            refine px_iload dX12_late_72 rfl ?_
            refine px_iadd dX12_late_74 ?_
            refine px_istore_n2 dX12_late_75 (by decide) rfl ?_
            refine px_iinc_3 (v := 1) dX12_late_76 (by decide) (by decide) rfl ?_
            refine px_goto (tgt := 17) dX12_late_79 (by decide) ?_
            refine px_lw (ls' := [some (.ref m), some (.int day), some (.int (mLate S day (i + 1))), some (.int (nI (i + 1))), none]) ?_ (ih (i + 1) (by omega) (by omega))
            (simp [LW, mLate, mBy, nI_1, *]; done)
        · skip
          refine px_aload_n dX12_late_47 rfl rfl ?_
          refine mx_getA (k := 13) (j := 10) dX12_late_48 gX12_41 (fun _ => rfl) ?_
          refine px_iload_n dX12_late_51 rfl rfl ?_
          refine mx_iald (j := 10) (k := 13) _ dX12_late_52 rfl rfl (by omega) (by decide) ?_
          refine px_goto (tgt := 57) dX12_late_53 (by decide) ?_
          refine px_aload_n dX12_late_57 rfl rfl ?_
          refine mx_getA (k := 9) (j := 6) dX12_late_58 gX12_28 (fun _ => rfl) ?_
          refine px_iload_n dX12_late_61 rfl rfl ?_
          refine mx_iald (j := 6) (k := 9) _ dX12_late_62 rfl rfl (by omega) (by decide) ?_
          refine px_isub dX12_late_63 ?_
          refine px_istore_4 dX12_late_64 (by decide) rfl ?_
          refine px_iload dX12_late_66 rfl ?_
          refine px_if_le (tgt := 76) dX12_late_68 (by decide) (fun H68 => ?_) (fun H68 => ?_)
          · skip
            refine px_iinc_3 (v := 1) dX12_late_76 (by decide) (by decide) rfl ?_
            refine px_goto (tgt := 17) dX12_late_79 (by decide) ?_
            refine px_lw (ls' := [some (.ref m), some (.int day), some (.int (mLate S day (i + 1))), some (.int (nI (i + 1))), none]) ?_ (ih (i + 1) (by omega) (by omega))
            (simp [LW, mLate, mBy, nI_1, *]; done)
          · skip
            refine px_iload_n dX12_late_71 rfl rfl ?_
            refine px_iload dX12_late_72 rfl ?_
            refine px_iadd dX12_late_74 ?_
            refine px_istore_n2 dX12_late_75 (by decide) rfl ?_
            refine px_iinc_3 (v := 1) dX12_late_76 (by decide) (by decide) rfl ?_
            refine px_goto (tgt := 17) dX12_late_79 (by decide) ?_
            refine px_lw (ls' := [some (.ref m), some (.int day), some (.int (mLate S day (i + 1))), some (.int (nI (i + 1))), none]) ?_ (ih (i + 1) (by omega) (by omega))
            (simp [LW, mLate, mBy, nI_1, *]; done)
      · skip
        refine px_goto (tgt := 76) dX12_late_35 (by decide) ?_
        refine px_iinc_3 (v := 1) dX12_late_76 (by decide) (by decide) rfl ?_
        refine px_goto (tgt := 17) dX12_late_79 (by decide) ?_
        refine px_lw (ls' := [some (.ref m), some (.int day), some (.int (mLate S day (i + 1))), some (.int (nI (i + 1))), none]) ?_ (ih (i + 1) (by omega) (by omega))
        (simp [LW, mLate, mBy, nI_1, *]; done)
set_option maxHeartbeats 4000000 in
set_option maxRecDepth 100000 in
theorem c_X12_late (G : Gt) (m : Nat) (h0 : Ht) (S : MS) (day : Int32) (n : Nat) (hC : S 6 0 = nI n) (hn : n ≤ 8) : PC G (MPic G m h0) 2 Y12_late [.ref m, .int day] S 0 0 (ri (fun x S' => x = f_late S day ∧ S' = S)) := by
  have eN := cN_eq hC (by omega)
  refine pc_of (ls := [some (.ref m), some (.int day), none, none, none]) (by decide +kernel) rfl (Nat.le_of_ble_eq_true rfl) ?_
  refine px_iload_n dX12_late_0 rfl rfl ?_
  refine px_iconst (v := 0) dX12_late_1 (by decide) ?_
  refine px_bipush (v := 99) dX12_late_2 (by decide) ?_
  refine px_pure3 dX12_late_4 lX12_109 (c_X12_in G _ _ _) (by decide) (Nat.le_of_ble_eq_true rfl) ?_
  refine px_if_ne (tgt := 13) dX12_late_7 (by decide) (fun H7 => ?_) (fun H7 => ?_)
  · skip
    refine px_iconst (v := 0) dX12_late_13 (by decide) ?_
    refine px_istore_n2 dX12_late_14 (by decide) rfl ?_
    refine px_iconst (v := 0) dX12_late_15 (by decide) ?_
    refine px_istore_n3 dX12_late_16 (by decide) rfl ?_
    refine lp_late G m h0 S day n hC hn _ ?_ (n + 1) 0 (by omega) (by omega)
    refine px_iload_n dX12_late_82 rfl rfl ?_
    refine px_iretI dX12_late_83 rfl ?_
    exact ⟨by simp [f_late, *], rfl⟩
  · skip
    refine px_bipush (v := (-2)) dX12_late_10 (by decide) ?_
    refine px_iretI dX12_late_12 rfl ?_
    exact ⟨by simp [f_late, *], rfl⟩
