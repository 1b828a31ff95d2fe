/-! THE CLASS: coat -/
def C2 (G : Gt) (m : Nat → Prop) (M0 : Nat → va_E) (p : MS × Qt) (h : Ht) : Prop := CPic G m M0 p.2 p.1 h
theorem px_C2 {G : Gt} {m : Nat → Prop} {M0 : Nat → va_E} {Q : Qt} {d : Nat} {Y : Yt} {pc : Nat} {ls : List (Option Value)} {st : List Value} {S : MS} {mc ms : Nat} {Post : Option Value → MS × Qt → Prop} (k : PX G (CPic G m M0 Q) d Y pc ls st S mc ms (fun r S' => Post r (S', Q))) : PX G (C2 G m M0) d Y pc ls st (S, Q) mc ms Post :=
  fun h hp => ax_post (fun r h' ⟨S', a, b⟩ => ⟨(S', Q), a, b⟩) (k h hp)
theorem pc_C2 {G : Gt} {m : Nat → Prop} {M0 : Nat → va_E} {Q : Qt} {d : Nat} {Y : Yt} {av : List Value} {S : MS} {mc ms : Nat} {Post : Option Value → MS × Qt → Prop} {Post' : Option Value → MS → Prop} (hi : ∀ r S', Post' r S' → Post r (S', Q)) (k : PC G (CPic G m M0 Q) d Y av S mc ms Post') : PC G (C2 G m M0) d Y av (S, Q) mc ms Post :=
  fun h hp => cx_post (fun r h' ⟨S', a, b⟩ => ⟨(S', Q), a, hi r S' b⟩) (k h hp)
theorem cz_get {G : Gt} {m : Nat → Prop} {M0 : Nat → va_E} {Q : Qt} {d : Nat} {Y : Yt} {pc : Nat} {ls : List (Option Value)} {st : List Value} {S : MS} {mc ms : Nat} {Post : Option Value → MS × Qt → Prop} {index k i ci f : Nat} {ty : FieldType} {fin : Bool} {fs : List Value} {v : Value} (hd : decode Y.2.1 pc = .ok (.getfield index, 3)) (hg : GF Y.1.cls index ci f ty fin) (he : cE G Q S k i = .inr (ci, fs)) (hl : i < lim Q k) (hv : fs[f]? = some v) (kk : PX G (C2 G m M0) d Y (pc + 3) ls (v :: st) (S, Q) mc ms Post) : PX G (C2 G m M0) d Y pc ls (.ref (Q.1 k i) :: st) (S, Q) mc ms Post :=
  fun h hp => ax_get hd hg (hp.1 k i hl).1 (hp.1 k i hl).2.1 ((hp.2.2.1 k i hl).trans he) hv (kk h hp)
def Qc (Q : Qt) (a : Nat) : Qt := (fun k i => if k = 33 ∧ i = Q.2.1 then a else Q.1 k i, Q.2.1 + 1, Q.2.2)
def Sc (S : MS) (nc : Nat) (k s n w : Int32) : MS := setA (up2 (up2 (up2 (up2 (up2 S 7 nc k) 8 nc s) 9 nc n) 10 nc w) 11 nc 0) 67 (upd (S 67) nc 0)
theorem Qc_ne {Q : Qt} {a k i : Nat} (h : ¬ (k = 33 ∧ i = Q.2.1)) : (Qc Q a).1 k i = Q.1 k i := if_neg h
theorem Qc_k {Q : Qt} {a k i : Nat} (h : k ≠ 33) : (Qc Q a).1 k i = Q.1 k i := if_neg (fun e => h e.1)
theorem Sc_r {S : MS} {nc : Nat} {k s n w : Int32} {r : Nat} (h : ¬ (7 ≤ r ∧ r ≤ 11)) (h7 : r ≠ 67) : Sc S nc k s n w r = S r := by
  unfold Sc
  rw [setA_ne h7, up2_ne (by omega), up2_ne (by omega), up2_ne (by omega), up2_ne (by omega), up2_ne (by omega)]
theorem up2_j {S : MS} {r0 nc r j : Nat} {x : Int32} (hj : j ≠ nc) : up2 S r0 nc x r j = S r j := by
  by_cases e : r = r0
  · subst e
    rw [up2_eq, pk_un hj]
  · rw [up2_ne e]
theorem Sc_j {S : MS} {nc : Nat} {k s n w : Int32} {r j : Nat} (h7 : r ≠ 67) (hj : j ≠ nc) : Sc S nc k s n w r j = S r j := by
  unfold Sc
  rw [setA_ne h7, up2_j hj, up2_j hj, up2_j hj, up2_j hj, up2_j hj]
section CEq
variable {G : Gt} {Q : Qt} {S : MS} {a i : Nat} {k s n w : Int32}
theorem cEq_0 : cE G (Qc Q a) (Sc S Q.2.1 k s n w) 0 i = cE G Q S 0 i := by simp only [cE, Sc_r (S := S) (nc := Q.2.1) (k := k) (s := s) (n := n) (w := w) (r := 16) (by omega) (by omega), Sc_r (S := S) (nc := Q.2.1) (k := k) (s := s) (n := n) (w := w) (r := 17) (by omega) (by omega), Sc_r (S := S) (nc := Q.2.1) (k := k) (s := s) (n := n) (w := w) (r := 39) (by omega) (by omega), Sc_r (S := S) (nc := Q.2.1) (k := k) (s := s) (n := n) (w := w) (r := 41) (by omega) (by omega), Sc_r (S := S) (nc := Q.2.1) (k := k) (s := s) (n := n) (w := w) (r := 42) (by omega) (by omega), Sc_r (S := S) (nc := Q.2.1) (k := k) (s := s) (n := n) (w := w) (r := 6) (by omega) (by omega), Sc_r (S := S) (nc := Q.2.1) (k := k) (s := s) (n := n) (w := w) (r := 60) (by omega) (by omega), Qc_k (Q := Q) (a := a) (k := 1) (by decide), Qc_k (Q := Q) (a := a) (k := 12) (by decide), Qc_k (Q := Q) (a := a) (k := 13) (by decide), Qc_k (Q := Q) (a := a) (k := 20) (by decide), Qc_k (Q := Q) (a := a) (k := 24) (by decide), Qc_k (Q := Q) (a := a) (k := 26) (by decide), Qc_k (Q := Q) (a := a) (k := 27) (by decide), Qc_k (Q := Q) (a := a) (k := 28) (by decide), Qc_k (Q := Q) (a := a) (k := 8) (by decide), Qc_k (Q := Q) (a := a) (k := 9) (by decide), show (Qc Q a).2.2 = Q.2.2 from rfl]
theorem cEq_1 : cE G (Qc Q a) (Sc S Q.2.1 k s n w) 1 i = cE G Q S 1 i := by simp only [cE, Sc_r (S := S) (nc := Q.2.1) (k := k) (s := s) (n := n) (w := w) (r := 1) (by omega) (by omega), Sc_r (S := S) (nc := Q.2.1) (k := k) (s := s) (n := n) (w := w) (r := 40) (by omega) (by omega), Qc_k (Q := Q) (a := a) (k := 2) (by decide), Qc_k (Q := Q) (a := a) (k := 3) (by decide), Qc_k (Q := Q) (a := a) (k := 4) (by decide), Qc_k (Q := Q) (a := a) (k := 5) (by decide), Qc_k (Q := Q) (a := a) (k := 6) (by decide), Qc_k (Q := Q) (a := a) (k := 7) (by decide), show (Qc Q a).2.2 = Q.2.2 from rfl]
theorem cEq_2 : cE G (Qc Q a) (Sc S Q.2.1 k s n w) 2 i = cE G Q S 2 i := by simp only [cE, Sc_r (S := S) (nc := Q.2.1) (k := k) (s := s) (n := n) (w := w) (r := 2) (by omega) (by omega), show (Qc Q a).2.2 = Q.2.2 from rfl]
theorem cEq_3 : cE G (Qc Q a) (Sc S Q.2.1 k s n w) 3 i = cE G Q S 3 i := by simp only [cE, Sc_r (S := S) (nc := Q.2.1) (k := k) (s := s) (n := n) (w := w) (r := 3) (by omega) (by omega), show (Qc Q a).2.2 = Q.2.2 from rfl]
theorem cEq_4 : cE G (Qc Q a) (Sc S Q.2.1 k s n w) 4 i = cE G Q S 4 i := by simp only [cE, Sc_r (S := S) (nc := Q.2.1) (k := k) (s := s) (n := n) (w := w) (r := 4) (by omega) (by omega), show (Qc Q a).2.2 = Q.2.2 from rfl]
theorem cEq_5 : cE G (Qc Q a) (Sc S Q.2.1 k s n w) 5 i = cE G Q S 5 i := by simp only [cE, Sc_r (S := S) (nc := Q.2.1) (k := k) (s := s) (n := n) (w := w) (r := 5) (by omega) (by omega), show (Qc Q a).2.2 = Q.2.2 from rfl]
theorem cEq_6 : cE G (Qc Q a) (Sc S Q.2.1 k s n w) 6 i = cE G Q S 6 i := by simp only [cE, Sc_r (S := S) (nc := Q.2.1) (k := k) (s := s) (n := n) (w := w) (r := 43) (by omega) (by omega), show (Qc Q a).2.2 = Q.2.2 from rfl]
theorem cEq_7 : cE G (Qc Q a) (Sc S Q.2.1 k s n w) 7 i = cE G Q S 7 i := by simp only [cE, Sc_r (S := S) (nc := Q.2.1) (k := k) (s := s) (n := n) (w := w) (r := 44) (by omega) (by omega), show (Qc Q a).2.2 = Q.2.2 from rfl]
theorem cEq_9 : cE G (Qc Q a) (Sc S Q.2.1 k s n w) 9 i = cE G Q S 9 i := by simp only [cE, Sc_r (S := S) (nc := Q.2.1) (k := k) (s := s) (n := n) (w := w) (r := 15) (by omega) (by omega), Sc_r (S := S) (nc := Q.2.1) (k := k) (s := s) (n := n) (w := w) (r := 62) (by omega) (by omega), Qc_k (Q := Q) (a := a) (k := 10) (by decide), Qc_k (Q := Q) (a := a) (k := 11) (by decide), show (Qc Q a).2.2 = Q.2.2 from rfl]
theorem cEq_10 : cE G (Qc Q a) (Sc S Q.2.1 k s n w) 10 i = cE G Q S 10 i := by simp only [cE, Sc_r (S := S) (nc := Q.2.1) (k := k) (s := s) (n := n) (w := w) (r := 14) (by omega) (by omega), show (Qc Q a).2.2 = Q.2.2 from rfl]
theorem cEq_11 : cE G (Qc Q a) (Sc S Q.2.1 k s n w) 11 i = cE G Q S 11 i := by simp only [cE, Sc_r (S := S) (nc := Q.2.1) (k := k) (s := s) (n := n) (w := w) (r := 63) (by omega) (by omega), show (Qc Q a).2.2 = Q.2.2 from rfl]
theorem cEq_12 : cE G (Qc Q a) (Sc S Q.2.1 k s n w) 12 i = cE G Q S 12 i := by simp only [cE, Qc_k (Q := Q) (a := a) (k := 28) (by decide), show (Qc Q a).2.2 = Q.2.2 from rfl]
theorem cEq_13 : cE G (Qc Q a) (Sc S Q.2.1 k s n w) 13 i = cE G Q S 13 i := by simp only [cE, Sc_r (S := S) (nc := Q.2.1) (k := k) (s := s) (n := n) (w := w) (r := (120 + 10 * i)) (by omega) (by omega), Qc_k (Q := Q) (a := a) (k := 14) (by decide), Qc_k (Q := Q) (a := a) (k := 15) (by decide), Qc_k (Q := Q) (a := a) (k := 16) (by decide), Qc_k (Q := Q) (a := a) (k := 17) (by decide), Qc_k (Q := Q) (a := a) (k := 18) (by decide), Qc_k (Q := Q) (a := a) (k := 19) (by decide), show (Qc Q a).2.2 = Q.2.2 from rfl]
theorem cEq_14 : cE G (Qc Q a) (Sc S Q.2.1 k s n w) 14 i = cE G Q S 14 i := by simp only [cE, Sc_r (S := S) (nc := Q.2.1) (k := k) (s := s) (n := n) (w := w) (r := (121 + 10 * i)) (by omega) (by omega), show (Qc Q a).2.2 = Q.2.2 from rfl]
theorem cEq_15 : cE G (Qc Q a) (Sc S Q.2.1 k s n w) 15 i = cE G Q S 15 i := by simp only [cE, Sc_r (S := S) (nc := Q.2.1) (k := k) (s := s) (n := n) (w := w) (r := (122 + 10 * i)) (by omega) (by omega), show (Qc Q a).2.2 = Q.2.2 from rfl]
theorem cEq_16 : cE G (Qc Q a) (Sc S Q.2.1 k s n w) 16 i = cE G Q S 16 i := by simp only [cE, Sc_r (S := S) (nc := Q.2.1) (k := k) (s := s) (n := n) (w := w) (r := (123 + 10 * i)) (by omega) (by omega), show (Qc Q a).2.2 = Q.2.2 from rfl]
theorem cEq_17 : cE G (Qc Q a) (Sc S Q.2.1 k s n w) 17 i = cE G Q S 17 i := by simp only [cE, Sc_r (S := S) (nc := Q.2.1) (k := k) (s := s) (n := n) (w := w) (r := (124 + 10 * i)) (by omega) (by omega), show (Qc Q a).2.2 = Q.2.2 from rfl]
theorem cEq_18 : cE G (Qc Q a) (Sc S Q.2.1 k s n w) 18 i = cE G Q S 18 i := by simp only [cE, Sc_r (S := S) (nc := Q.2.1) (k := k) (s := s) (n := n) (w := w) (r := (125 + 10 * i)) (by omega) (by omega), show (Qc Q a).2.2 = Q.2.2 from rfl]
theorem cEq_19 : cE G (Qc Q a) (Sc S Q.2.1 k s n w) 19 i = cE G Q S 19 i := by simp only [cE, Sc_r (S := S) (nc := Q.2.1) (k := k) (s := s) (n := n) (w := w) (r := (126 + 10 * i)) (by omega) (by omega), show (Qc Q a).2.2 = Q.2.2 from rfl]
theorem cEq_20 : cE G (Qc Q a) (Sc S Q.2.1 k s n w) 20 i = cE G Q S 20 i := by simp only [cE, Sc_r (S := S) (nc := Q.2.1) (k := k) (s := s) (n := n) (w := w) (r := 66) (by omega) (by omega), Qc_k (Q := Q) (a := a) (k := 13) (by decide), Qc_k (Q := Q) (a := a) (k := 21) (by decide), Qc_k (Q := Q) (a := a) (k := 22) (by decide), show (Qc Q a).2.2 = Q.2.2 from rfl]
theorem cEq_22 : cE G (Qc Q a) (Sc S Q.2.1 k s n w) 22 i = cE G Q S 22 i := by simp only [cE, Qc_k (Q := Q) (a := a) (k := 23) (by decide), show (Qc Q a).2.2 = Q.2.2 from rfl]
theorem cEq_23 : cE G (Qc Q a) (Sc S Q.2.1 k s n w) 23 i = cE G Q S 23 i := by simp only [cE, Sc_r (S := S) (nc := Q.2.1) (k := k) (s := s) (n := n) (w := w) (r := (100 + i)) (by omega) (by omega), show (Qc Q a).2.2 = Q.2.2 from rfl]
theorem cEq_24 : cE G (Qc Q a) (Sc S Q.2.1 k s n w) 24 i = cE G Q S 24 i := by simp only [cE, Qc_k (Q := Q) (a := a) (k := 25) (by decide), show (Qc Q a).2.2 = Q.2.2 from rfl]
theorem cEq_25 : cE G (Qc Q a) (Sc S Q.2.1 k s n w) 25 i = cE G Q S 25 i := by simp only [cE, Sc_r (S := S) (nc := Q.2.1) (k := k) (s := s) (n := n) (w := w) (r := (110 + i)) (by omega) (by omega), show (Qc Q a).2.2 = Q.2.2 from rfl]
theorem cEq_26 : cE G (Qc Q a) (Sc S Q.2.1 k s n w) 26 i = cE G Q S 26 i := by simp only [cE, Sc_r (S := S) (nc := Q.2.1) (k := k) (s := s) (n := n) (w := w) (r := 48) (by omega) (by omega), show (Qc Q a).2.2 = Q.2.2 from rfl]
theorem cEq_27 : cE G (Qc Q a) (Sc S Q.2.1 k s n w) 27 i = cE G Q S 27 i := by simp only [cE, Sc_r (S := S) (nc := Q.2.1) (k := k) (s := s) (n := n) (w := w) (r := 49) (by omega) (by omega), show (Qc Q a).2.2 = Q.2.2 from rfl]
theorem cEq_28 : cE G (Qc Q a) (Sc S Q.2.1 k s n w) 28 i = cE G Q S 28 i := by simp only [cE, Qc_k (Q := Q) (a := a) (k := 29) (by decide), Qc_k (Q := Q) (a := a) (k := 30) (by decide), Qc_k (Q := Q) (a := a) (k := 31) (by decide), Qc_k (Q := Q) (a := a) (k := 32) (by decide), show (Qc Q a).2.2 = Q.2.2 from rfl]
theorem cEq_29 : cE G (Qc Q a) (Sc S Q.2.1 k s n w) 29 i = cE G Q S 29 i := by simp only [cE, Sc_r (S := S) (nc := Q.2.1) (k := k) (s := s) (n := n) (w := w) (r := (70 + i)) (by omega) (by omega), Sc_r (S := S) (nc := Q.2.1) (k := k) (s := s) (n := n) (w := w) (r := 160) (by omega) (by omega), show (Qc Q a).2.2 = Q.2.2 from rfl]
theorem cEq_30 : cE G (Qc Q a) (Sc S Q.2.1 k s n w) 30 i = cE G Q S 30 i := by simp only [cE, Sc_r (S := S) (nc := Q.2.1) (k := k) (s := s) (n := n) (w := w) (r := (150 + i)) (by omega) (by omega), show (Qc Q a).2.2 = Q.2.2 from rfl]
theorem cEq_31 : cE G (Qc Q a) (Sc S Q.2.1 k s n w) 31 i = cE G Q S 31 i := by simp only [cE, Sc_r (S := S) (nc := Q.2.1) (k := k) (s := s) (n := n) (w := w) (r := (80 + i)) (by omega) (by omega), show (Qc Q a).2.2 = Q.2.2 from rfl]
theorem cEq_32 : cE G (Qc Q a) (Sc S Q.2.1 k s n w) 32 i = cE G Q S 32 i := by simp only [cE, Sc_r (S := S) (nc := Q.2.1) (k := k) (s := s) (n := n) (w := w) (r := (90 + i)) (by omega) (by omega), Sc_r (S := S) (nc := Q.2.1) (k := k) (s := s) (n := n) (w := w) (r := 160) (by omega) (by omega), show (Qc Q a).2.2 = Q.2.2 from rfl]
theorem cEq_8 : cE G (Qc Q a) (Sc S Q.2.1 k s n w) 8 i = .inl (gC G 3, 8, .inr (.inr (.inr (.inr (va_up (fun q => if q < Q.2.1 then some (Q.1 33 q) else none) Q.2.1 (some a)))))) := by
  show (.inl (gC G 3, 8, .inr (.inr (.inr (.inr (fun q => if q < Q.2.1 + 1 then some ((Qc Q a).1 33 q) else none))))) : va_E) = _
  congr 7
  funext q
  by_cases e : q = Q.2.1
  · subst e
    rw [va_up_self, if_pos (Nat.lt_succ_self _)]
    show some (if 33 = 33 ∧ _ then _ else _) = _
    rw [if_pos ⟨rfl, rfl⟩]
  · rw [va_up_ne _ _ e, Qc_ne (fun z => e z.2)]
    by_cases e2 : q < Q.2.1
    · rw [if_pos e2, if_pos (by omega)]
    · rw [if_neg e2, if_neg (by omega)]
theorem cEq_21 : cE G (Qc Q a) (Sc S Q.2.1 k s n w) 21 i = cE G Q S 21 i := by
  show (.inl (gC G 3, 3, .inr (.inr (.inr (.inr (fun q => if q < Q.2.1 + 1 ∧ Sc S Q.2.1 k s n w 67 q = 1 then some ((Qc Q a).1 33 q) else none))))) : va_E) = .inl (gC G 3, 3, .inr (.inr (.inr (.inr (fun q => if q < Q.2.1 ∧ S 67 q = 1 then some (Q.1 33 q) else none)))))
  congr 7
  funext q
  rw [show Sc S Q.2.1 k s n w 67 = upd (S 67) Q.2.1 0 from setA_eq]
  by_cases e : q = Q.2.1
  · subst e
    rw [pk_us, if_neg (fun z => absurd z.2 (by decide)), if_neg (fun z => absurd z.1 (Nat.lt_irrefl _))]
  · rw [pk_un e, Qc_ne (fun z => e z.2)]
    by_cases e2 : q < Q.2.1 ∧ S 67 q = 1
    · rw [if_pos e2, if_pos ⟨by omega, e2.2⟩]
    · rw [if_neg e2, if_neg (fun z => e2 ⟨by omega, z.2⟩)]
theorem cEq_33 (hi : i ≠ Q.2.1) : cE G (Qc Q a) (Sc S Q.2.1 k s n w) 33 i = cE G Q S 33 i := by
  simp only [cE, Sc_j (S := S) (nc := Q.2.1) (k := k) (s := s) (n := n) (w := w) (r := 7) (j := i) (by decide) hi, Sc_j (S := S) (nc := Q.2.1) (k := k) (s := s) (n := n) (w := w) (r := 8) (j := i) (by decide) hi, Sc_j (S := S) (nc := Q.2.1) (k := k) (s := s) (n := n) (w := w) (r := 9) (j := i) (by decide) hi, Sc_j (S := S) (nc := Q.2.1) (k := k) (s := s) (n := n) (w := w) (r := 10) (j := i) (by decide) hi, Sc_j (S := S) (nc := Q.2.1) (k := k) (s := s) (n := n) (w := w) (r := 11) (j := i) (by decide) hi, Sc_j (S := S) (nc := Q.2.1) (k := k) (s := s) (n := n) (w := w) (r := 12) (j := i) (by decide) hi, Sc_j (S := S) (nc := Q.2.1) (k := k) (s := s) (n := n) (w := w) (r := 13) (j := i) (by decide) hi, Sc_j (S := S) (nc := Q.2.1) (k := k) (s := s) (n := n) (w := w) (r := 45) (j := i) (by decide) hi, Sc_j (S := S) (nc := Q.2.1) (k := k) (s := s) (n := n) (w := w) (r := 46) (j := i) (by decide) hi, Sc_j (S := S) (nc := Q.2.1) (k := k) (s := s) (n := n) (w := w) (r := 47) (j := i) (by decide) hi]
theorem cEq_33n (hz : S 12 Q.2.1 = 0 ∧ S 13 Q.2.1 = 0 ∧ S 45 Q.2.1 = 0 ∧ S 46 Q.2.1 = 0 ∧ S 47 Q.2.1 = 0) : cE G (Qc Q a) (Sc S Q.2.1 k s n w) 33 Q.2.1 = .inr (kci k, cz k s n w) := by
  have e7 : Sc S Q.2.1 k s n w 7 Q.2.1 = k := by simp [Sc, setA, up2, upd]
  have e8 : Sc S Q.2.1 k s n w 8 Q.2.1 = s := by simp [Sc, setA, up2, upd]
  have e9 : Sc S Q.2.1 k s n w 9 Q.2.1 = n := by simp [Sc, setA, up2, upd]
  have e10 : Sc S Q.2.1 k s n w 10 Q.2.1 = w := by simp [Sc, setA, up2, upd]
  have e11 : Sc S Q.2.1 k s n w 11 Q.2.1 = 0 := by simp [Sc, setA, up2, upd]
  have r : ∀ r, ¬ (7 ≤ r ∧ r ≤ 11) → r ≠ 67 → Sc S Q.2.1 k s n w r Q.2.1 = S r Q.2.1 := fun r h h7 => by rw [Sc_r h h7]
  simp only [cE, e7, e8, e9, e10, e11, r 12 (by decide) (by decide), r 13 (by decide) (by decide), r 45 (by decide) (by decide), r 46 (by decide) (by decide), r 47 (by decide) (by decide), hz]
  rfl
end CEq
theorem lim_c {Q : Qt} {a k i : Nat} (h : i < lim (Qc Q a) k) : (k = 33 ∧ i = Q.2.1) ∨ (¬ (k = 33 ∧ i = Q.2.1) ∧ i < lim Q k) := by
  by_cases e : k = 33 ∧ i = Q.2.1
  · exact Or.inl e
  · refine Or.inr ⟨e, ?_⟩
    have hk := lim_k h
    rcases (by omega : k = 0 ∨ k = 1 ∨ k = 2 ∨ k = 3 ∨ k = 4 ∨ k = 5 ∨ k = 6 ∨ k = 7 ∨ k = 8 ∨ k = 9 ∨ k = 10 ∨ k = 11 ∨ k = 12 ∨ k = 13 ∨ k = 14 ∨ k = 15 ∨ k = 16 ∨ k = 17 ∨ k = 18 ∨ k = 19 ∨ k = 20 ∨ k = 21 ∨ k = 22 ∨ k = 23 ∨ k = 24 ∨ k = 25 ∨ k = 26 ∨ k = 27 ∨ k = 28 ∨ k = 29 ∨ k = 30 ∨ k = 31 ∨ k = 32 ∨ k = 33) with rfl | rfl | rfl | rfl | rfl | rfl | rfl | rfl | rfl | rfl | rfl | rfl | rfl | rfl | rfl | rfl | rfl | rfl | rfl | rfl | rfl | rfl | rfl | rfl | rfl | rfl | rfl | rfl | rfl | rfl | rfl | rfl | rfl | rfl
    · exact h
    · exact h
    · exact h
    · exact h
    · exact h
    · exact h
    · exact h
    · exact h
    · exact h
    · exact h
    · exact h
    · exact h
    · exact h
    · exact h
    · exact h
    · exact h
    · exact h
    · exact h
    · exact h
    · exact h
    · exact h
    · exact h
    · exact h
    · exact h
    · exact h
    · exact h
    · exact h
    · exact h
    · exact h
    · exact h
    · exact h
    · exact h
    · exact h
    · have h2 : i < Q.2.1 + 1 := h
      show i < Q.2.1
      have : i ≠ Q.2.1 := fun z => e ⟨rfl, z⟩
      omega
theorem coat_pic {G : Gt} {m : Nat → Prop} {M0 : Nat → va_E} {Q : Qt} {S : MS} {h : Ht} {k s n w : Int32} (hp : CPic G m M0 Q S h) (h8 : Q.2.1 < 8) (hz : S 12 Q.2.1 = 0 ∧ S 13 Q.2.1 = 0 ∧ S 45 Q.2.1 = 0 ∧ S 46 Q.2.1 = 0 ∧ S 47 Q.2.1 = 0) : CPic G m M0 (Qc Q h.1) (Sc S Q.2.1 k s n w) (h.1 + 1, va_up (va_up h.2 h.1 (.inr (kci k, cz k s n w))) (Q.1 8 0) (.inl (gC G 3, 8, .inr (.inr (.inr (.inr (va_up (fun q => if q < Q.2.1 then some (Q.1 33 q) else none) Q.2.1 (some h.1)))))))) := by
  obtain ⟨p1, p2, p3, ⟨p4, p5, p6⟩, p7⟩ := hp
  have hB : gB G ≤ h.1 := by have := p1 0 0 Nat.one_pos; omega
  have n8 := (p1 8 0 Nat.one_pos).2.1
  refine ⟨fun k' i' hl => ?_, fun k1 i1 k2 i2 hl1 hl2 e => ?_, fun k' i' hl => ?_, ⟨fun a ha => ?_, p5, h8⟩, fun a ha => ?_⟩
  · rcases lim_c hl with ⟨rfl, rfl⟩ | ⟨hne, hl'⟩
    · show gB G ≤ (if 33 = 33 ∧ Q.2.1 = Q.2.1 then h.1 else _) ∧ (if 33 = 33 ∧ Q.2.1 = Q.2.1 then h.1 else _) < h.1 + 1 ∧ ¬ m (if 33 = 33 ∧ Q.2.1 = Q.2.1 then h.1 else _)
      rw [if_pos ⟨rfl, rfl⟩]
      exact ⟨hB, Nat.lt_succ_self _, fun q => absurd (p4 _ q) (Nat.lt_irrefl _)⟩
    · rw [Qc_ne hne]
      have := p1 k' i' hl'
      exact ⟨this.1, Nat.lt_succ_of_lt this.2.1, this.2.2⟩
  · rcases lim_c hl1 with ⟨rfl, rfl⟩ | ⟨hne1, hl1'⟩
    · rcases lim_c hl2 with ⟨rfl, rfl⟩ | ⟨hne2, hl2'⟩
      · exact ⟨rfl, rfl⟩
      · rw [Qc_ne hne2, show (Qc Q h.1).1 33 Q.2.1 = h.1 from if_pos ⟨rfl, rfl⟩] at e
        have := (p1 k2 i2 hl2').2.1
        omega
    · rcases lim_c hl2 with ⟨rfl, rfl⟩ | ⟨hne2, hl2'⟩
      · rw [Qc_ne hne1, show (Qc Q h.1).1 33 Q.2.1 = h.1 from if_pos ⟨rfl, rfl⟩] at e
        have := (p1 k1 i1 hl1').2.1
        omega
      · rw [Qc_ne hne1, Qc_ne hne2] at e
        exact p2 k1 i1 k2 i2 hl1' hl2' e
  · show va_up (va_up h.2 h.1 _) (Q.1 8 0) _ ((Qc Q h.1).1 k' i') = _
    rcases lim_c hl with ⟨rfl, rfl⟩ | ⟨hne, hl'⟩
    · rw [show (Qc Q h.1).1 33 Q.2.1 = h.1 from if_pos ⟨rfl, rfl⟩, va_up_ne _ _ (by omega), va_up_self, cEq_33n hz]
    · rw [Qc_ne hne]
      have a1 := (p1 k' i' hl').2.1
      by_cases e8 : k' = 8
      · subst e8
        obtain rfl : i' = 0 := by have : i' < 1 := hl'; omega
        rw [va_up_self, cEq_8]
      · rw [va_up_ne _ _ (fun e => e8 (p2 k' i' 8 0 hl' Nat.one_pos e).1), va_up_ne _ _ (by omega), p3 k' i' hl']
        symm
        have hk := lim_k hl'
        rcases (by omega : k' = 0 ∨ k' = 1 ∨ k' = 2 ∨ k' = 3 ∨ k' = 4 ∨ k' = 5 ∨ k' = 6 ∨ k' = 7 ∨ k' = 8 ∨ k' = 9 ∨ k' = 10 ∨ k' = 11 ∨ k' = 12 ∨ k' = 13 ∨ k' = 14 ∨ k' = 15 ∨ k' = 16 ∨ k' = 17 ∨ k' = 18 ∨ k' = 19 ∨ k' = 20 ∨ k' = 21 ∨ k' = 22 ∨ k' = 23 ∨ k' = 24 ∨ k' = 25 ∨ k' = 26 ∨ k' = 27 ∨ k' = 28 ∨ k' = 29 ∨ k' = 30 ∨ k' = 31 ∨ k' = 32 ∨ k' = 33) with rfl | rfl | rfl | rfl | rfl | rfl | rfl | rfl | rfl | rfl | rfl | rfl | rfl | rfl | rfl | rfl | rfl | rfl | rfl | rfl | rfl | rfl | rfl | rfl | rfl | rfl | rfl | rfl | rfl | rfl | rfl | rfl | rfl | rfl
        · exact cEq_0
        · exact cEq_1
        · exact cEq_2
        · exact cEq_3
        · exact cEq_4
        · exact cEq_5
        · exact cEq_6
        · exact cEq_7
        · exact absurd rfl e8
        · exact cEq_9
        · exact cEq_10
        · exact cEq_11
        · exact cEq_12
        · exact cEq_13
        · exact cEq_14
        · exact cEq_15
        · exact cEq_16
        · exact cEq_17
        · exact cEq_18
        · exact cEq_19
        · exact cEq_20
        · exact cEq_21
        · exact cEq_22
        · exact cEq_23
        · exact cEq_24
        · exact cEq_25
        · exact cEq_26
        · exact cEq_27
        · exact cEq_28
        · exact cEq_29
        · exact cEq_30
        · exact cEq_31
        · exact cEq_32
        · exact cEq_33 (fun e => hne ⟨rfl, e⟩)
  · have := p4 a ha
    show a < h.1 + 1
    omega
  · show va_up (va_up h.2 h.1 _) (Q.1 8 0) _ a = _
    have := p4 a ha
    rw [va_up_ne _ _ (fun e => (p1 8 0 Nat.one_pos).2.2 (by rw [← e]; exact ha)), va_up_ne _ _ (by omega)]
    exact p7 a ha
theorem rest_ok {r : Int32} : mIn r 0 20999 = 0 ↔ r < 0 ∨ 20 < r / 1000 := by
  rw [mIn_0]
  by_cases h : r < 0
  · exact ⟨fun _ => Or.inl h, fun _ => Or.inl h⟩
  have h0 := i0_ge.mp h
  have hlt := Int32.toInt_lt r
  have er : r = nI r.toInt.toNat := by rw [i_eq, nI_toInt (by omega)]; omega
  have eq : r / 1000 = nI (r.toInt.toNat / 1000) := by
    conv => lhs; rw [er]
    rw [show (1000 : Int32) = nI 1000 from rfl, pk_div (by omega) (by decide) (by decide)]
  have h1 : (20 < r / 1000) ↔ 20 < r.toInt.toNat / 1000 := by
    rw [eq, show (20 : Int32) = nI 20 from rfl]
    exact nI_ltI (by omega) (by omega)
  have h2 : (20999 < r) ↔ 20999 < r.toInt.toNat := by
    conv => lhs; rw [er]
    rw [show (20999 : Int32) = nI 20999 from rfl]
    exact nI_ltI (by omega) (by omega)
  rw [h1, h2]
  constructor
  · rintro (q | q)
    · exact Or.inl q
    · exact Or.inr (by omega)
  · rintro (q | q)
    · exact Or.inl q
    · exact Or.inr (by omega)
set_option maxHeartbeats 400000 in
set_option maxRecDepth 100000 in
theorem coat_end (G : Gt) (m : Nat → Prop) (M0 : Nat → va_E) (Q : Qt) (S : MS) (k s r : Int32) (P : Int32 → MS → Prop) (hfin : P (S 6 0 + 1 - 1) (up2 S 6 0 (S 6 0 + 1))) : PX G (CPic G m M0 Q) 5 Y11_coat 60 [some (.ref (Q.1 0 0)), some (.int k), some (.int s), some (.int r)] [] S 0 0 (ri P) := by
  refine px_aload_n dX11_coat_60 rfl rfl ?_
  refine px_dup dX11_coat_61 rfl ?_
  refine cx_get (k := 0) (i := 0) (f := 2) dX11_coat_62 gX11_91 rfl Nat.one_pos rfl ?_
  refine px_iconst (v := 1) dX11_coat_65 (by decide) ?_
  refine px_iadd dX11_coat_66 ?_
  refine cx_put (k := 0) (i := 0) (f := 2) (r := 6) (j := 0) dX11_coat_67 gX11_91 rfl Nat.one_pos (Nat.le_of_ble_eq_true rfl) (by decide) rfl (cpe_0_2 0 _) rfl rfl ?_
  refine px_aload_n dX11_coat_70 rfl rfl ?_
  refine cx_get (k := 0) (i := 0) (f := 2) dX11_coat_71 gX11_91 rfl Nat.one_pos rfl ?_
  refine px_iconst (v := 1) dX11_coat_74 (by decide) ?_
  refine px_isub dX11_coat_75 ?_
  refine px_iretI dX11_coat_76 rfl ?_
  exact hfin
set_option maxHeartbeats 400000 in
set_option maxRecDepth 100000 in
theorem c_X11_coat (G : Gt) (m : Nat → Prop) (M0 : Nat → va_E) (Q : Qt) (S : MS) (k s r : Int32) (hC : S 6 0 = nI Q.2.1) (hC8 : Q.2.1 ≤ 8) (hz : Q.2.1 < 8 → S 12 Q.2.1 = 0 ∧ S 13 Q.2.1 = 0 ∧ S 45 Q.2.1 = 0 ∧ S 46 Q.2.1 = 0 ∧ S 47 Q.2.1 = 0) : PC G (C2 G m M0) 5 Y11_coat [.ref (Q.1 0 0), .int k, .int s, .int r] (S, Q) 1 10 (ri (fun x p => x = (f_coat S k s r).1 ∧ fr [67] (f_coat S k s r).2 p.1 ∧ (∀ k' i', i' < lim Q k' → p.2.1 k' i' = Q.1 k' i') ∧ p.2.2.2 = Q.2.2 ∧ (f_coat S k s r).2 6 0 = nI p.2.2.1 ∧ p.2.2.1 ≤ 8)) := by
  have eC := cN_eq hC (by omega)
  refine pc_of (ls := [some (.ref (Q.1 0 0)), some (.int k), some (.int s), some (.int r)]) (by decide +kernel) rfl (Nat.le_of_ble_eq_true rfl) ?_
  refine px_iload_n dX11_coat_0 rfl rfl ?_
  refine px_iconst (v := 0) dX11_coat_1 (by decide) ?_
  refine px_iconst (v := 5) dX11_coat_2 (by decide) ?_
  refine px_pure3 dX11_coat_3 lX11_81 (c_X11_isWithin G _ _ _) (by decide) (Nat.le_of_ble_eq_true rfl) ?_
  refine px_if_eq (tgt := 30) dX11_coat_6 (by decide) (fun H6 => ?_) (fun H6 => ?_)
  · skip
    have hneg : mIn k 0 5 = 0 ∨ mIn s 1 9 = 0 ∨ r < 0 ∨ 20 < r / 1000 := Or.inl H6
    refine px_bipush (v := (-2)) dX11_coat_30 (by decide) ?_
    refine px_iretI dX11_coat_32 rfl ?_
    have hf : f_coat S k s r = (-2, S) := by rw [f_coat, if_pos hneg]
    exact ⟨by rw [hf], by rw [hf]; exact fr.rf, fun _ _ _ => rfl, rfl, by rw [hf]; exact hC, hC8⟩
  · skip
    refine px_iload_n dX11_coat_9 rfl rfl ?_
    refine px_iconst (v := 1) dX11_coat_10 (by decide) ?_
    refine px_bipush (v := 9) dX11_coat_11 (by decide) ?_
    refine px_pure3 dX11_coat_13 lX11_81 (c_X11_isWithin G _ _ _) (by decide) (Nat.le_of_ble_eq_true rfl) ?_
    refine px_if_eq (tgt := 30) dX11_coat_16 (by decide) (fun H16 => ?_) (fun H16 => ?_)
    · skip
      have hneg : mIn k 0 5 = 0 ∨ mIn s 1 9 = 0 ∨ r < 0 ∨ 20 < r / 1000 := Or.inr (Or.inl H16)
      refine px_bipush (v := (-2)) dX11_coat_30 (by decide) ?_
      refine px_iretI dX11_coat_32 rfl ?_
      have hf : f_coat S k s r = (-2, S) := by rw [f_coat, if_pos hneg]
      exact ⟨by rw [hf], by rw [hf]; exact fr.rf, fun _ _ _ => rfl, rfl, by rw [hf]; exact hC, hC8⟩
    · skip
      refine px_iload_n dX11_coat_19 rfl rfl ?_
      refine px_iconst (v := 0) dX11_coat_20 (by decide) ?_
      refine px_sipush (v := 20999) dX11_coat_21 (by decide) ?_
      refine px_pure3 dX11_coat_24 lX11_81 (c_X11_isWithin G _ _ _) (by decide) (Nat.le_of_ble_eq_true rfl) ?_
      refine px_if_ne (tgt := 33) dX11_coat_27 (by decide) (fun H27 => ?_) (fun H27 => ?_)
      · skip
        refine px_aload_n dX11_coat_33 rfl rfl ?_
        refine cz_get (k := 0) (i := 0) (f := 2) dX11_coat_34 gX11_91 rfl Nat.one_pos rfl ?_
        refine px_bipush (v := 8) dX11_coat_37 (by decide) ?_
        refine px_icmp_lt (tgt := 45) dX11_coat_39 (by decide) (fun H39 => ?_) (fun H39 => ?_)
        · skip
          rw [hC] at H39
          refine px_aload_n dX11_coat_45 rfl rfl ?_
          refine cz_get (k := 0) (i := 0) (f := 1) dX11_coat_46 gX11_18 rfl Nat.one_pos rfl ?_
          refine px_aload_n dX11_coat_49 rfl rfl ?_
          refine cz_get (k := 0) (i := 0) (f := 2) dX11_coat_50 gX11_91 rfl Nat.one_pos rfl ?_
          refine px_iload_n dX11_coat_53 rfl rfl ?_
          refine px_iload_n dX11_coat_54 rfl rfl ?_
          refine px_iload_n dX11_coat_55 rfl rfl ?_
          have l8 : Q.2.1 < 8 := lt_n (a := Q.2.1) (b := 8) (by omega) (by omega) H39
          obtain ⟨j, hj, ej, tj⟩ := in_ix (n := 5) (by decide) H6
          have hf : f_coat S k s r = (S 6 0, up2 (up2 (up2 (up2 (up2 (up2 S 7 Q.2.1 k) 8 Q.2.1 s) 9 Q.2.1 (r / 1000)) 10 Q.2.1 (r - r / 1000 * 1000)) 11 Q.2.1 0) 6 0 (S 6 0 + 1)) := by
            rw [f_coat, if_neg (by rintro (q | q | q); exact H6 q; exact H16 q; exact H27 (rest_ok.mpr q)), if_neg (by rw [hC]; intro q; have := eq_n (a := Q.2.1) (b := 8) (by omega) (by omega) q; omega), eC]
          intro h hp
          have hcp : CPic G m M0 Q S h := hp
          have hB : gB G ≤ h.1 := by have := hcp.1 0 0 Nat.one_pos; omega
          have a8 := hcp.1 8 0 Nat.one_pos
          refine ax_budget (mc' := 1 + 0) (ms' := 10 + 0) (Nat.le_refl _) (Nat.le_refl _) (ax_callS dX11_coat_56 lX11_94 (av := [.int k, .int s, .int r]) rfl rfl (by decide) (Nat.le_of_ble_eq_true rfl) (c_X11_newCoat G h k s r hB ⟨j, hj, ej⟩ h rfl) (fun r9 h9 hq => ?_))
          obtain ⟨S9, hS9, x9, rfl, rfl, hh9⟩ := hq
          obtain rfl := hS9
          subst hh9
          have ht6 : (S 6 0).toNatClampNeg = Q.2.1 := by rw [hC, nI_clamp (by omega)]
          show AX G 5 _ 59 _ [.ref h.1, .int (S 6 0), .ref (Q.1 8 0)] (h.1 + 1, va_up h.2 h.1 (.inr (kci k, cz k s (r / 1000) (r - r / 1000 * 1000)))) 0 0 _
          refine ax_aast (t := 3) (r := RX2) (n := 8) (i := S 6 0) (f := fun q => if q < Q.2.1 then some (Q.1 33 q) else none) (fs := cz k s (r / 1000) (r - r / 1000 * 1000)) (ci := kci k) dX11_coat_59 a8.1 (Nat.lt_succ_of_lt a8.2.1) (by show va_up _ _ _ _ = _; rw [va_up_ne _ _ (by omega)]; exact hcp.2.2.1 8 0 Nat.one_pos) rfl (by rw [hC]; exact vp_in_nI l8 (by decide)) hB (Nat.lt_succ_self _) (va_up_self _ _ _) (vk_cl k) (nm_ok k) ?_
          rw [ht6]
          have hpic := coat_pic (k := k) (s := s) (n := r / 1000) (w := r - r / 1000 * 1000) hcp l8 (hz l8)
          refine px_C2 (Q := Qc Q h.1) (S := Sc S Q.2.1 k s (r / 1000) (r - r / 1000 * 1000)) ?_ _ hpic
          rw [show Q.1 0 0 = (Qc Q h.1).1 0 0 from (Qc_k (by decide)).symm]
          refine coat_end G m M0 (Qc Q h.1) _ k s r (fun x S' => (fun x p => x = (f_coat S k s r).1 ∧ fr [67] (f_coat S k s r).2 p.1 ∧ (∀ k' i', i' < lim Q k' → p.2.1 k' i' = Q.1 k' i') ∧ p.2.2.2 = Q.2.2 ∧ (f_coat S k s r).2 6 0 = nI p.2.2.1 ∧ p.2.2.1 ≤ 8) x (S', Qc Q h.1)) ?_
          have e6 : Sc S Q.2.1 k s (r / 1000) (r - r / 1000 * 1000) 6 0 = nI Q.2.1 := by rw [Sc_r (by decide) (by decide)]; exact hC
          refine ⟨?_, ?_, ?_, rfl, ?_, l8⟩
          · rw [hf, e6, nI_1, nIs (by omega), hC]
            rfl
          · rw [hf]
            have hfs : fr [67] (up2 (up2 (up2 (up2 (up2 S 7 Q.2.1 k) 8 Q.2.1 s) 9 Q.2.1 (r / 1000)) 10 Q.2.1 (r - r / 1000 * 1000)) 11 Q.2.1 0) (Sc S Q.2.1 k s (r / 1000) (r - r / 1000 * 1000)) := fr_set List.mem_cons_self
            show fr [67] _ (up2 _ 6 0 _)
            rw [e6, hC]
            exact fr_up2C hfs
          · intro k' i' hl
            refine Qc_ne fun e => ?_
            obtain ⟨rfl, rfl⟩ := e
            exact absurd hl (Nat.lt_irrefl _)
          · rw [hf]
            dsimp only
            rw [up2_eq, pk_us, hC, nI_1]
            rfl
        · skip
          rw [hC] at H39
          refine px_bipush (v := (-4)) dX11_coat_42 (by decide) ?_
          refine px_iretI dX11_coat_44 rfl ?_
          have e8 : Q.2.1 = 8 := by have := ge_n (a := Q.2.1) (b := 8) (by omega) (by omega) H39; omega
          have hf : f_coat S k s r = (-4, S) := by rw [f_coat, if_neg (by rintro (q | q | q); exact H6 q; exact H16 q; exact H27 (rest_ok.mpr q)), if_pos (by rw [hC, e8]; rfl)]
          exact ⟨by rw [hf], by rw [hf]; exact fr.rf, fun _ _ _ => rfl, rfl, by rw [hf]; exact hC, hC8⟩
      · skip
        have hneg : mIn k 0 5 = 0 ∨ mIn s 1 9 = 0 ∨ r < 0 ∨ 20 < r / 1000 := Or.inr (Or.inr (rest_ok.mp H27))
        refine px_bipush (v := (-2)) dX11_coat_30 (by decide) ?_
        refine px_iretI dX11_coat_32 rfl ?_
        have hf : f_coat S k s r = (-2, S) := by rw [f_coat, if_pos hneg]
        exact ⟨by rw [hf], by rw [hf]; exact fr.rf, fun _ _ _ => rfl, rfl, by rw [hf]; exact hC, hC8⟩
