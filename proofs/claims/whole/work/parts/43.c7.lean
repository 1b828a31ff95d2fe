/-! THE CLASS: the planner -/
set_option maxHeartbeats 4000000 in
set_option maxRecDepth 100000 in
theorem lp_ko (G : Gt) (m : Nat → Prop) (M0 : Nat → va_E) (Q : Qt) (S : MS) : ∀ (kk i : Nat) (T : MS), fr [67] S T → (∀ j, j < i → T 67 j = if j < Q.2.1 ∧ S 11 j = 0 then 1 else 0) → i ≤ 3 → 4 ≤ i + kk → PX G (CPic G m M0 Q) 1 Y5_keepOpen 2 [some (.ref (Q.1 20 0)), some (.ref (Q.1 8 0)), some (.int (nI i)), none] [] T 0 0 (rv (fun S' => fr [67] S S' ∧ ∀ j, j < 3 → S' 67 j = if j < Q.2.1 ∧ S 11 j = 0 then 1 else 0)) := by
  intro kk
  induction kk with
  | zero => intro i T h1 h2 h3 h4; omega
  | succ kk ih =>
    intro i T hf hd hi hk
    refine px_iload_n dX5_keepOpen_2 rfl rfl ?_
    refine px_iconst (v := 3) dX5_keepOpen_3 (by decide) ?_
    refine px_icmp_ge (tgt := 49) dX5_keepOpen_4 (by decide) (fun H4 => ?_) (fun H4 => ?_)
    · skip
      have e3 : i = 3 := by have := ge_n (a := i) (b := 3) (by omega) (by omega) H4; omega
      subst e3
      refine px_return dX5_keepOpen_49 rfl ?_
      exact ⟨hf, hd⟩
    · skip
      have l3 : i < 3 := lt_n (a := i) (b := 3) (by omega) (by omega) H4
      have e11 : T 11 = S 11 := hf 11 (by decide)
      refine px_iload_n dX5_keepOpen_7 rfl rfl ?_
      refine px_aload_n dX5_keepOpen_8 rfl rfl ?_
      refine cx_alen (k := 8) (i := 0) (t := 3) (n := 0) (v := (nI 8)) dX5_keepOpen_9 rfl Nat.one_pos rfl rfl ?_
      refine px_icmp_ge (tgt := 19) dX5_keepOpen_10 (by decide) (fun H10 => ?_) (fun H10 => ?_)
      · skip
        exact absurd (ge_n (by omega) (by omega) H10) (by omega)
      · skip
        refine px_aload_n dX5_keepOpen_13 rfl rfl ?_
        refine px_iload_n dX5_keepOpen_14 rfl rfl ?_
        by_cases hcc : i < Q.2.1
        · skip
          refine cx_aald (k := 8) (i := 0) (i) dX5_keepOpen_15 rfl Nat.one_pos rfl rfl rfl (by omega) (by decide) (cr_pos hcc) ?_
          refine px_goto (tgt := 20) dX5_keepOpen_16 (by decide) ?_
          refine px_astore_n3 dX5_keepOpen_20 (by decide) rfl ?_
          refine px_aload_n dX5_keepOpen_21 rfl rfl ?_
          refine cx_get (k := 20) (i := 0) (f := 4) dX5_keepOpen_22 gX5_20 rfl Nat.one_pos rfl ?_
          refine px_iload_n dX5_keepOpen_25 rfl rfl ?_
          refine px_aload_n dX5_keepOpen_26 rfl rfl ?_
          refine px_ifnull dX5_keepOpen_27 ?_
          refine px_aload_n dX5_keepOpen_30 rfl rfl ?_
          refine cx_get (k := 33) (i := i) (f := 4) dX5_keepOpen_31 (gk_X5_69 _) rfl (show i < Q.2.1 by omega) rfl ?_
          refine px_if_ne (tgt := 41) dX5_keepOpen_34 (by decide) (fun H34 => ?_) (fun H34 => ?_)
          · skip
            rw [e11] at H34
            refine px_null dX5_keepOpen_41 ?_
            refine cx_openN dX5_keepOpen_42 l3 ?_
            refine px_iinc_2 (v := 1) dX5_keepOpen_43 (by decide) (by decide) rfl ?_
            refine px_goto (tgt := 2) dX5_keepOpen_46 (by decide) ?_
            rw [nI_1]
            refine px_lw (ls' := [some (.ref (Q.1 20 0)), some (.ref (Q.1 8 0)), some (.int (nI (i + 1))), none]) (by simp [LW]) (ih (i + 1) _ (hf.up List.mem_cons_self) (fun j hj => ?_) (by omega) (by omega))
            rw [up2_eq]
            by_cases e : j = i
            · subst e
              rw [pk_us]
              first
              | exact (if_pos ⟨hcc, H34⟩).symm
              | exact (if_neg (fun q => H34 q.2)).symm
              | exact (if_neg (fun q => hcc q.1)).symm
            · rw [pk_un e]; exact hd j (by omega)
            -- end
          · skip
            rw [e11] at H34
            refine px_aload_n dX5_keepOpen_37 rfl rfl ?_
            refine px_goto (tgt := 42) dX5_keepOpen_38 (by decide) ?_
            refine cx_openS dX5_keepOpen_42 l3 hcc ?_
            refine px_iinc_2 (v := 1) dX5_keepOpen_43 (by decide) (by decide) rfl ?_
            refine px_goto (tgt := 2) dX5_keepOpen_46 (by decide) ?_
            rw [nI_1]
            refine px_lw (ls' := [some (.ref (Q.1 20 0)), some (.ref (Q.1 8 0)), some (.int (nI (i + 1))), none]) (by simp [LW]) (ih (i + 1) _ (hf.up List.mem_cons_self) (fun j hj => ?_) (by omega) (by omega))
            rw [up2_eq]
            by_cases e : j = i
            · subst e
              rw [pk_us]
              first
              | exact (if_pos ⟨hcc, H34⟩).symm
              | exact (if_neg (fun q => H34 q.2)).symm
              | exact (if_neg (fun q => hcc q.1)).symm
            · rw [pk_un e]; exact hd j (by omega)
            -- end
        · skip
          refine cx_aald (k := 8) (i := 0) (i) dX5_keepOpen_15 rfl Nat.one_pos rfl rfl rfl (by omega) (by decide) (cr_neg hcc) ?_
          refine px_goto (tgt := 20) dX5_keepOpen_16 (by decide) ?_
          refine px_astoreN_n3 dX5_keepOpen_20 (by decide) rfl ?_
          refine px_aload_n dX5_keepOpen_21 rfl rfl ?_
          refine cx_get (k := 20) (i := 0) (f := 4) dX5_keepOpen_22 gX5_20 rfl Nat.one_pos rfl ?_
          refine px_iload_n dX5_keepOpen_25 rfl rfl ?_
          refine px_aload_nN dX5_keepOpen_26 rfl rfl ?_
          refine px_ifnullN (tgt := 41) dX5_keepOpen_27 (by decide) ?_
          refine px_null dX5_keepOpen_41 ?_
          refine cx_openN dX5_keepOpen_42 l3 ?_
          refine px_iinc_2 (v := 1) dX5_keepOpen_43 (by decide) (by decide) rfl ?_
          refine px_goto (tgt := 2) dX5_keepOpen_46 (by decide) ?_
          rw [nI_1]
          refine px_lw (ls' := [some (.ref (Q.1 20 0)), some (.ref (Q.1 8 0)), some (.int (nI (i + 1))), none]) (by simp [LW]) (ih (i + 1) _ (hf.up List.mem_cons_self) (fun j hj => ?_) (by omega) (by omega))
          rw [up2_eq]
          by_cases e : j = i
          · subst e
            rw [pk_us]
            first
            | exact (if_pos ⟨hcc, H34⟩).symm
            | exact (if_neg (fun q => H34 q.2)).symm
            | exact (if_neg (fun q => hcc q.1)).symm
          · rw [pk_un e]; exact hd j (by omega)
          -- end
        -- end
set_option maxHeartbeats 4000000 in
set_option maxRecDepth 100000 in
theorem c_X5_keepOpen (G : Gt) (m : Nat → Prop) (M0 : Nat → va_E) (Q : Qt) (S : MS)   : PC G (CPic G m M0 Q) 1 Y5_keepOpen [.ref (Q.1 20 0), .ref (Q.1 8 0)] S 0 0 (rv (fun S' => fr [67] S S' ∧ ∀ j, j < 3 → S' 67 j = if j < Q.2.1 ∧ S 11 j = 0 then 1 else 0)) := by
  refine pc_of (ls := [some (.ref (Q.1 20 0)), some (.ref (Q.1 8 0)), none, none]) (by decide +kernel) rfl (Nat.le_of_ble_eq_true rfl) ?_
  refine px_iconst (v := 0) dX5_keepOpen_0 (by decide) ?_
  refine px_istore_n2 dX5_keepOpen_1 (by decide) rfl ?_
  exact lp_ko G m M0 Q S 4 0 S fr.rf (fun j hj => by omega) (by omega) (by omega)
def bC (w : W3) (o k s : Int32) : Prop := w.1 < s ∨ (s = w.1 ∧ (k < w.2.2 ∨ (k = w.2.2 ∧ o < w.2.1)))
def WC (T : MS) (w : W3) : Prop := T 66 0 = w.1 ∧ T 66 1 = w.2.1 ∧ T 66 2 = w.2.2
set_option maxHeartbeats 4000000 in
set_option maxRecDepth 100000 in
theorem c_X5_isBetter (G : Gt) (m : Nat → Prop) (M0 : Nat → va_E) (Q : Qt) (S : MS) (k ord s : Int32)  : PC G (CPic G m M0 Q) 1 Y5_isBetter [.ref (Q.1 20 0), .int k, .int ord, .int s] S 0 0 (ri (fun x S' => ((x = 1 ∧ bC (S 66 0, S 66 1, S 66 2) ord k s) ∨ (x = 0 ∧ ¬ bC (S 66 0, S 66 1, S 66 2) ord k s)) ∧ S' = S)) := by
  refine pc_of (ls := [some (.ref (Q.1 20 0)), some (.int k), some (.int ord), some (.int s)]) (by decide +kernel) rfl (Nat.le_of_ble_eq_true rfl) ?_
  refine px_iload_n dX5_isBetter_0 rfl rfl ?_
  refine px_aload_n dX5_isBetter_1 rfl rfl ?_
  refine cx_get (k := 20) (i := 0) (f := 0) dX5_isBetter_2 gX5_33 rfl Nat.one_pos rfl ?_
  refine px_icmp_eq (tgt := 22) dX5_isBetter_5 (by decide) (fun H5 => ?_) (fun H5 => ?_)
  · skip
    refine px_iload_n dX5_isBetter_22 rfl rfl ?_
    refine px_aload_n dX5_isBetter_23 rfl rfl ?_
    refine cx_get (k := 20) (i := 0) (f := 2) dX5_isBetter_24 gX5_40 rfl Nat.one_pos rfl ?_
    refine px_icmp_lt (tgt := 46) dX5_isBetter_27 (by decide) (fun H27 => ?_) (fun H27 => ?_)
    · skip
      refine px_iconst (v := 1) dX5_isBetter_46 (by decide) ?_
      refine px_goto (tgt := 51) dX5_isBetter_47 (by decide) ?_
      refine px_iretZ dX5_isBetter_51 rfl (by first | rfl | decide) ?_
      refine ⟨?_, rfl⟩
      unfold bC
      first
      | (exact Or.inl ⟨rfl, by first | exact Or.inl (by assumption) | (refine Or.inr ⟨by assumption, ?_⟩; first | exact Or.inl (by assumption) | exact Or.inr ⟨by assumption, by assumption⟩)⟩)
      | (refine Or.inr ⟨rfl, fun q => ?_⟩
         rcases q with q | ⟨q1, q2 | ⟨q2, q3⟩⟩
         · first
           | contradiction
           | (simp_all; done)
         · first
           | contradiction
           | (simp_all; done)
         · first
           | contradiction
           | (simp_all; done))
    · skip
      refine px_iload_n dX5_isBetter_30 rfl rfl ?_
      refine px_aload_n dX5_isBetter_31 rfl rfl ?_
      refine cx_get (k := 20) (i := 0) (f := 2) dX5_isBetter_32 gX5_40 rfl Nat.one_pos rfl ?_
      refine px_icmp_ne (tgt := 50) dX5_isBetter_35 (by decide) (fun H35 => ?_) (fun H35 => ?_)
      · skip
        refine px_iconst (v := 0) dX5_isBetter_50 (by decide) ?_
        refine px_iretZ dX5_isBetter_51 rfl (by first | rfl | decide) ?_
        refine ⟨?_, rfl⟩
        unfold bC
        first
        | (exact Or.inl ⟨rfl, by first | exact Or.inl (by assumption) | (refine Or.inr ⟨by assumption, ?_⟩; first | exact Or.inl (by assumption) | exact Or.inr ⟨by assumption, by assumption⟩)⟩)
        | (refine Or.inr ⟨rfl, fun q => ?_⟩
           rcases q with q | ⟨q1, q2 | ⟨q2, q3⟩⟩
           · first
             | contradiction
             | (simp_all; done)
           · first
             | contradiction
             | (simp_all; done)
           · first
             | contradiction
             | (simp_all; done))
      · skip
        refine px_iload_n dX5_isBetter_38 rfl rfl ?_
        refine px_aload_n dX5_isBetter_39 rfl rfl ?_
        refine cx_get (k := 20) (i := 0) (f := 1) dX5_isBetter_40 gX5_37 rfl Nat.one_pos rfl ?_
        refine px_icmp_ge (tgt := 50) dX5_isBetter_43 (by decide) (fun H43 => ?_) (fun H43 => ?_)
        · skip
          refine px_iconst (v := 0) dX5_isBetter_50 (by decide) ?_
          refine px_iretZ dX5_isBetter_51 rfl (by first | rfl | decide) ?_
          refine ⟨?_, rfl⟩
          unfold bC
          first
          | (exact Or.inl ⟨rfl, by first | exact Or.inl (by assumption) | (refine Or.inr ⟨by assumption, ?_⟩; first | exact Or.inl (by assumption) | exact Or.inr ⟨by assumption, by assumption⟩)⟩)
          | (refine Or.inr ⟨rfl, fun q => ?_⟩
             rcases q with q | ⟨q1, q2 | ⟨q2, q3⟩⟩
             · first
               | contradiction
               | (simp_all; done)
             · first
               | contradiction
               | (simp_all; done)
             · first
               | contradiction
               | (simp_all; done))
        · skip
          refine px_iconst (v := 1) dX5_isBetter_46 (by decide) ?_
          refine px_goto (tgt := 51) dX5_isBetter_47 (by decide) ?_
          refine px_iretZ dX5_isBetter_51 rfl (by first | rfl | decide) ?_
          refine ⟨?_, rfl⟩
          unfold bC
          first
          | (exact Or.inl ⟨rfl, by first | exact Or.inl (by assumption) | (refine Or.inr ⟨by assumption, ?_⟩; first | exact Or.inl (by assumption) | exact Or.inr ⟨by assumption, by assumption⟩)⟩)
          | (refine Or.inr ⟨rfl, fun q => ?_⟩
             rcases q with q | ⟨q1, q2 | ⟨q2, q3⟩⟩
             · first
               | contradiction
               | (simp_all; done)
             · first
               | contradiction
               | (simp_all; done)
             · first
               | contradiction
               | (simp_all; done))
  · skip
    refine px_iload_n dX5_isBetter_8 rfl rfl ?_
    refine px_aload_n dX5_isBetter_9 rfl rfl ?_
    refine cx_get (k := 20) (i := 0) (f := 0) dX5_isBetter_10 gX5_33 rfl Nat.one_pos rfl ?_
    refine px_icmp_le (tgt := 20) dX5_isBetter_13 (by decide) (fun H13 => ?_) (fun H13 => ?_)
    · skip
      refine px_iconst (v := 0) dX5_isBetter_20 (by decide) ?_
      refine px_iretZ dX5_isBetter_21 rfl (by first | rfl | decide) ?_
      refine ⟨?_, rfl⟩
      unfold bC
      first
      | (exact Or.inl ⟨rfl, by first | exact Or.inl (by assumption) | (refine Or.inr ⟨by assumption, ?_⟩; first | exact Or.inl (by assumption) | exact Or.inr ⟨by assumption, by assumption⟩)⟩)
      | (refine Or.inr ⟨rfl, fun q => ?_⟩
         rcases q with q | ⟨q1, q2 | ⟨q2, q3⟩⟩
         · first
           | contradiction
           | (simp_all; done)
         · first
           | contradiction
           | (simp_all; done)
         · first
           | contradiction
           | (simp_all; done))
    · skip
      refine px_iconst (v := 1) dX5_isBetter_16 (by decide) ?_
      refine px_goto (tgt := 21) dX5_isBetter_17 (by decide) ?_
      refine px_iretZ dX5_isBetter_21 rfl (by first | rfl | decide) ?_
      refine ⟨?_, rfl⟩
      unfold bC
      first
      | (exact Or.inl ⟨rfl, by first | exact Or.inl (by assumption) | (refine Or.inr ⟨by assumption, ?_⟩; first | exact Or.inl (by assumption) | exact Or.inr ⟨by assumption, by assumption⟩)⟩)
      | (refine Or.inr ⟨rfl, fun q => ?_⟩
         rcases q with q | ⟨q1, q2 | ⟨q2, q3⟩⟩
         · first
           | contradiction
           | (simp_all; done)
         · first
           | contradiction
           | (simp_all; done)
         · first
           | contradiction
           | (simp_all; done))
theorem bet_yes {w : W3} {o k s : Int32} (h : bC w o k s) : bet w o k s = (s, o, k) := if_pos h
theorem bet_no {w : W3} {o k s : Int32} (h : ¬ bC w o k s) : bet w o k s = w := if_neg h
/-- the planner's calls change nothing else, from row k of its ounces on -/
def frG (k t : Nat) (S T : MS) : Prop := ∀ r, r ≠ 66 → ¬ (130 ≤ r ∧ r ≤ 136) → r ≠ 80 + t → r ≠ 90 + t → ¬ (100 + k < r ∧ r ≤ 103) → T r = S r
theorem frG.rf {k t : Nat} {S : MS} : frG k t S S := fun _ _ _ _ _ _ => rfl
theorem frG.tr {k t : Nat} {S T U : MS} (h : frG k t S T) (h2 : frG k t T U) : frG k t S U := fun r a b c d e => (h2 r a b c d e).trans (h r a b c d e)
theorem frG.up {k t r j : Nat} {S T : MS} {x : Int32} (h : frG k t S T) (hr : r = 66 ∨ (130 ≤ r ∧ r ≤ 136) ∨ (100 + k < r ∧ r ≤ 103)) : frG k t S (up2 T r j x) := fun q a b c d e => by rw [up2_ne (by omega)]; exact h q a b c d e
theorem frG.set {k t r : Nat} {S T : MS} {f : Nat → Int32} (h : frG k t S T) (hr : r = 66 ∨ (130 ≤ r ∧ r ≤ 136) ∨ (100 + k < r ∧ r ≤ 103)) : frG k t S (setA T r f) := fun q a b c d e => by rw [setA_ne (by omega)]; exact h q a b c d e
theorem frG.dn {k t : Nat} {S T : MS} (h : frG (k + 1) t S T) : frG k t S T := fun q a b c d e => h q a b c d (by omega)
theorem frG.C {k t : Nat} {S T : MS} (h : fr (scC 1 t) S T) : frG k t S T := fun q a b c d e => h q (by unfold scC; simp only [List.mem_cons, List.not_mem_nil, or_false]; omega)
theorem frG.Pk {k t : Nat} {S T : MS} (h : fr (scP 1) S T) : frG k t S T := fun q a b c d e => h q (by unfold scP; simp only [List.mem_cons, List.not_mem_nil, or_false]; omega)
theorem frG.fk {k t : Nat} {S T : MS} (h : frG k t S T) : fk S T := fun q hq => h q (by omega) (by omega) (by omega) (by omega) (by omega)
/-- U is S with the ounces of the planner's row k -/
def UR (S : MS) (k : Nat) (U : MS) : Prop := (∀ r, r ≤ 20 ∨ (39 ≤ r ∧ r ≤ 50) → r ≠ 2 → U r = S r) ∧ ∀ h, h < 6 → U 2 h = S (100 + k) h
theorem UR.fk {S U : MS} {k : Nat} (h : UR S k U) : fk (setA S 2 (U 2)) U := by
  intro r hr
  by_cases e : r = 2
  · subst e; rw [setA_eq]
  · rw [setA_ne e]; exact h.1 r hr e
theorem UR.go {S T U : MS} {k t : Nat} (h : UR S k U) (hf : frG k t S T) (ht : t < 6) (hk : k ≤ 3) : UR T k U := ⟨fun r hr he => by rw [hf.fk r hr]; exact h.1 r hr he, fun x hx => by rw [hf (100 + k) (by omega) (by omega) (by omega) (by omega) (by omega)]; exact h.2 x hx⟩
theorem mSeen_6 {S U : MS} {f : Nat → Int32} {a b : Nat} (h1 : ∀ r, r ≤ 20 ∨ (39 ≤ r ∧ r ≤ 50) → r ≠ 2 → U r = S r) (ha : U 2 a = f a) (hb : U 2 b = f b) : mSeen (setA S 2 f) a b = mSeen U a b := by
  have hf : fk (setA S 2 (U 2)) U := by
    intro r hr
    by_cases e : r = 2
    · subst e; rw [setA_eq]
    · rw [setA_ne e]; exact h1 r hr e
  rw [mSeen_k hf, seen_eq0, seen_eq0, ha, hb]
theorem mTk_R {S U : MS} {k c : Nat} {p : Int32} (h : UR S k U) : mTk U c p = mTk S c p := by rw [mTk_k h.fk]; exact mTk_U
theorem mBe_R {S U : MS} {k c : Nat} {p : Int32} (h : UR S k U) : mBe U c p = mBe S c p := by rw [mBe_k h.fk]; exact mBe_U
theorem mBear_R {S U : MS} {k c : Nat} {p : Int32} (h : UR S k U) : mBear U c p = mBear S c p := by rw [mBear_k h.fk]; exact mBear_U
theorem mBr_R {S U : MS} {k c : Nat} (h : UR S k U) : mBr U c = mBr S c := by rw [mBr_k h.fk]; rfl
/-- what is laid out with row k's ounces is laid out with U's -/
theorem LO.R {S T U : MS} {κ n c k : Nat} (h : LO T κ (setA S 2 (S (100 + k))) n c) (hU : UR S k U) (hn : n ≤ 6) : LO T κ U n c := by
  obtain ⟨h1, h2, h3, h4, h5⟩ := h
  refine ⟨h1, fun p hp => ?_, fun q hq => ?_, fun a ha => ?_, fun a b ha hb hab => ?_⟩
  · rw [h2 p hp, mTk_U, mTk_R hU]
  · rw [h3 q hq, mBe_U, mBear_U, mBe_R hU, mBear_R hU]
  · rw [h4 a ha, setA_eq, hU.2 a (by omega)]
  · rw [h5 a b ha hb hab, mSeen_6 hU.1 (hU.2 a (by omega)) (hU.2 b (by omega))]
theorem LO.R2 {T U : MS} {κ n c : Nat} {f : Nat → Int32} (h : LO T κ U n c) (hn : n ≤ 6) (hf : ∀ x, x < 6 → f x = U 2 x) : LO T κ (setA U 2 f) n c := by
  obtain ⟨h1, h2, h3, h4, h5⟩ := h
  refine ⟨h1, fun p hp => ?_, fun q hq => ?_, fun a ha => ?_, fun a b ha hb hab => ?_⟩
  · rw [h2 p hp, mTk_U]
  · rw [h3 q hq, mBe_U, mBear_U]
  · rw [h4 a ha, setA_eq, hf a (by omega)]
  · rw [h5 a b ha hb hab]
    exact (mSeen_6 (S := U) (U := U) (fun _ _ _ => rfl) (hf a (by omega)).symm (hf b (by omega)).symm).symm
theorem tkF_6 {U : MS} {f : Nat → Int32} {c p : Nat} (hf : ∀ x, x < 6 → f x = U 2 x) : ∀ (k : Nat), ∀ x, x < 6 → tkF (setA U 2 f) c p 1 k x = tkF U c p 1 k x
  | 0, x, hx => by rw [tkF, tkF, setA_eq]; exact hf x hx
  | k + 1, x, hx => by
    rw [tkF, tkF, mTk_U, tkF_6 hf k (dg p k) (dg_lt p k)]
    by_cases e : x = dg p k
    · subst e; rw [pk_us, pk_us]
    · rw [pk_un e, pk_un e]; exact tkF_6 hf k x hx
theorem tkF_gv {U : MS} {c p x : Nat} : ∀ {k : Nat}, tkF U c p 1 k x = U 2 x - gv5 U c p x k
  | 0 => by rw [tkF, gv5, Int32.sub_zero]
  | k + 1 => by
    rw [tkF, gv5]
    by_cases e : x = dg p k
    · subst e
      rw [pk_us, if_pos rfl, tkF_gv, Int32.one_mul]
      simp only [Int32.sub_eq_add_neg, Int32.neg_add, Int32.add_assoc]
    · rw [pk_un e, if_neg (fun q => e q.symm), tkF_gv, Int32.add_zero]
theorem OB_tk {U : MS} {n c p : Nat} (hT : TKB U c) (hO : OB U n) (hg : gd U n c p) : OB (setA U 2 (tkF U c p 1 5)) n := by
  intro x hx
  obtain ⟨a, ha, ea⟩ := hO x hx
  obtain ⟨g, hg1, eg⟩ := gv5_n (U := U) (c := c) (p := p) (h := x) hT (show 5 ≤ 5 by omega)
  have hle := (gd_PF.mp hg).2.1 x hx
  rw [eg, ea] at hle
  have hga : g ≤ a := ge_n (by omega) (by omega) hle
  exact ⟨a - g, by omega, by rw [setA_eq, tkF_gv, ea, eg, pk_sub hga]⟩
theorem cnF_g {U : MS} {n c : Nat} : ∀ {P : Nat}, P ≤ 7776 → ∃ m, m ≤ P ∧ (cnF U n c P).2.2 = nI m ∧ ((cnF U n c P).1 = -1 ↔ m = 0) ∧ ∀ p, p < 7776 → (cnF U n c P).1 = nI p → gd U n c p
  | 0, _ => ⟨0, by omega, rfl, ⟨fun _ => rfl, fun _ => rfl⟩, fun p hp e => by
      have h1 : (nI p).toInt = (-1 : Int32).toInt := by rw [← e]; rfl
      rw [nI_toInt' (by omega), show (-1 : Int32).toInt = -1 from rfl] at h1
      omega⟩
  | P + 1, hP => by
    obtain ⟨m, hm, e1, e2, e3⟩ := cnF_g (U := U) (n := n) (c := c) (show P ≤ 7776 by omega)
    rw [cnF]
    split
    · next hg =>
      split
      · refine ⟨m + 1, by omega, by show _ + 1 = _; rw [e1, nI_1], ⟨fun q => ?_, fun q => by omega⟩, fun p hp e => ?_⟩
        · have h1 : (nI P).toInt = (-1 : Int32).toInt := by rw [show nI P = -1 from q]
          rw [nI_toInt' (by omega), show (-1 : Int32).toInt = -1 from rfl] at h1
          omega
        · rw [← show P = p from eq_n (by omega) (by omega) e]; exact hg
      · next hq =>
        have hl := cnF_lt (U := U) (n := n) (c := c) (show P ≤ 7776 by omega)
        refine ⟨m + 1, by omega, by show _ + 1 = _; rw [e1, nI_1], ⟨fun q => absurd (Or.inl (hl.mpr q)) hq, fun q => by omega⟩, e3⟩
    · exact ⟨m, by omega, e1, e2, e3⟩
