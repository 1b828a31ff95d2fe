/-! THE LAW: both sides beside each other -/
abbrev YL : Yt := (yL_law, cL_law, 4, some .boolean)
theorem kl_39 : Cond.constantLong RL 39 (4294967295 : Int64) ∈ tb := (tb_7 43 rfl rfl)
def rg (rm a : Nat) : Prop := rm ≤ a ∧ a < rm + 30
def BP (G : Gt) (rm : Nat) (Q : Qt) (S : MS) (h : Ht) : Prop := CPic G (rg rm) h.2 Q S h ∧ MPic G rm h S h
def syn (S1 S2 : MS) : MS := fun k => if k = 0 ∨ (18 ≤ k ∧ k ≤ 38) ∨ k = 50 ∨ k = 51 then S2 k else S1 k
def shd (S1 S2 : MS) : Prop := ∀ k, (1 ≤ k ∧ k ≤ 17) ∨ (39 ≤ k ∧ k ≤ 49) → S1 k = S2 k
theorem syn_m {S1 S2 : MS} (h : shd S1 S2) {k : Nat} (hk : k ≤ 51) : syn S1 S2 k = S2 k := by
  unfold syn
  split
  · rfl
  · exact h k (by omega)
theorem syn_c {S1 S2 : MS} {k : Nat} (hk : ¬ (k = 0 ∨ (18 ≤ k ∧ k ≤ 38) ∨ k = 50 ∨ k = 51)) : syn S1 S2 k = S1 k := if_neg hk
theorem ow_ro {r j : Nat} (h : r = 0 ∨ (18 ≤ r ∧ r ≤ 38) ∨ r = 50 ∨ r = 51) : ow r j = (99, 0) := by
  rcases (by omega : r = 0 ∨ r = 18 ∨ r = 19 ∨ r = 20 ∨ r = 21 ∨ r = 22 ∨ r = 23 ∨ r = 24 ∨ r = 25 ∨ r = 26 ∨ r = 27 ∨ r = 28 ∨ r = 29 ∨ r = 30 ∨ r = 31 ∨ r = 32 ∨ r = 33 ∨ r = 34 ∨ r = 35 ∨ r = 36 ∨ r = 37 ∨ r = 38 ∨ r = 50 ∨ r = 51) with rfl | rfl | rfl | rfl | rfl | rfl | rfl | rfl | rfl | rfl | rfl | rfl | rfl | rfl | rfl | rfl | rfl | rfl | rfl | rfl | rfl | rfl | rfl | rfl <;> rfl
theorem mA_51 : ∀ (j k t n : Nat), mA[j]? = some (k, t, n) → k ≤ 51 := by
  intro j k t n hj
  have hl : j < 29 := (List.getElem?_eq_some_iff.mp hj).1
  rcases (by omega : j = 0 ∨ j = 1 ∨ j = 2 ∨ j = 3 ∨ j = 4 ∨ j = 5 ∨ j = 6 ∨ j = 7 ∨ j = 8 ∨ j = 9 ∨ j = 10 ∨ j = 11 ∨ j = 12 ∨ j = 13 ∨ j = 14 ∨ j = 15 ∨ j = 16 ∨ j = 17 ∨ j = 18 ∨ j = 19 ∨ j = 20 ∨ j = 21 ∨ j = 22 ∨ j = 23 ∨ j = 24 ∨ j = 25 ∨ j = 26 ∨ j = 27 ∨ j = 28) with rfl | rfl | rfl | rfl | rfl | rfl | rfl | rfl | rfl | rfl | rfl | rfl | rfl | rfl | rfl | rfl | rfl | rfl | rfl | rfl | rfl | rfl | rfl | rfl | rfl | rfl | rfl | rfl | rfl <;> cases hj <;> decide
section BPl
variable {G : Gt} {rm : Nat} {Q Q1 : Qt} {S S1 S2 F : MS} {h h1 h2 : Ht}
theorem bp_m (hp : BP G rm Q S h) (hc : CPic G (rg rm) h.2 Q1 S1 h1) : MPic G rm h1 S h1 := by
  obtain ⟨-, m1, m2, m3, m4, m5, m6⟩ := hp
  have e : ∀ a, rg rm a → h1.2 a = h.2 a := hc.2.2.2.2
  have lt := hc.2.2.2.1.1 (rm + 29) ⟨by omega, by omega⟩
  refine ⟨m1, by omega, rfl, (e rm ⟨Nat.le_refl _, by omega⟩).trans m4, fun j k t n hj => ?_, fun _ _ => rfl⟩
  have := mA_len hj
  exact (e _ ⟨by omega, by omega⟩).trans (m5 j k t n hj)
theorem bp_c (hc : CPic G (rg rm) h.2 Q1 S1 h1) (hm : MPic G rm h1 S2 h2) : CPic G (rg rm) h2.2 Q1 S1 h2 := by
  obtain ⟨p1, p2, p3, p4, p5⟩ := hc
  obtain ⟨m1, m2, m3, m4, m5, m6⟩ := hm
  have m3' : h2.1 = h1.1 := m3
  refine ⟨fun k i hl => ⟨(p1 k i hl).1, by rw [m3']; exact (p1 k i hl).2.1, (p1 k i hl).2.2⟩, p2, fun k i hl => ?_, ⟨fun a ha => by rw [m3']; exact p4.1 a ha, p4.2⟩, fun _ _ => rfl⟩
  have := (p1 k i hl).2.2
  unfold rg at this
  rw [m6 _ (by omega)]
  exact p3 k i hl
theorem bp_sync (hc : CPic G (rg rm) h.2 Q1 S1 h1) (hm : MPic G rm h1 S2 h2) (hs : shd S1 S2) : BP G rm Q1 (syn S1 S2) h2 := by
  obtain ⟨p1, p2, p3, p4, p5⟩ := bp_c hc hm
  obtain ⟨m1, m2, m3, m4, m5, m6⟩ := hm
  refine ⟨⟨p1, p2, fun k i hl => (p3 k i hl).trans (cE_congr p4.2.1 hl (fun r j hr => ?_) (fun r hr => ?_)), p4, p5⟩, ⟨m1, m2, rfl, ?_, fun j k t n hj => ?_, fun _ _ => rfl⟩⟩
  · refine (congrFun (syn_c (S1 := S1) (S2 := S2) (k := r) (fun w => ?_)) j).symm
    have e := (ow_ro (j := j) w).symm.trans hr
    have hk := lim_k hl
    have := congrArg Prod.fst e
    have : 99 = k := this
    omega
  · exact (syn_c (by omega)).symm
  · rw [m4]
    simp only [mFs, syn_m hs (show (0 : Nat) ≤ 51 by decide), syn_m hs (show (1 : Nat) ≤ 51 by decide), syn_m hs (show (6 : Nat) ≤ 51 by decide), syn_m hs (show (15 : Nat) ≤ 51 by decide), syn_m hs (show (16 : Nat) ≤ 51 by decide), syn_m hs (show (17 : Nat) ≤ 51 by decide), syn_m hs (show (21 : Nat) ≤ 51 by decide), syn_m hs (show (22 : Nat) ≤ 51 by decide), syn_m hs (show (23 : Nat) ≤ 51 by decide), syn_m hs (show (24 : Nat) ≤ 51 by decide), syn_m hs (show (25 : Nat) ≤ 51 by decide), syn_m hs (show (26 : Nat) ≤ 51 by decide), syn_m hs (show (27 : Nat) ≤ 51 by decide), syn_m hs (show (32 : Nat) ≤ 51 by decide), syn_m hs (show (33 : Nat) ≤ 51 by decide), syn_m hs (show (34 : Nat) ≤ 51 by decide), syn_m hs (show (36 : Nat) ≤ 51 by decide), syn_m hs (show (37 : Nat) ≤ 51 by decide), syn_m hs (show (38 : Nat) ≤ 51 by decide), syn_m hs (show (39 : Nat) ≤ 51 by decide), syn_m hs (show (40 : Nat) ≤ 51 by decide), syn_m hs (show (41 : Nat) ≤ 51 by decide), syn_m hs (show (42 : Nat) ≤ 51 by decide)]
  · rw [m5 j k t n hj, syn_m hs (mA_51 j k t n hj)]
/-- the class keeps, the reference keeps -/
def clK (F S1 : MS) : Prop := ∀ k, (1 ≤ k ∧ k ≤ 17) ∨ (39 ≤ k ∧ k ≤ 49) ∨ k = 60 ∨ k = 160 ∨ (70 ≤ k ∧ k ≤ 75) ∨ (150 ≤ k ∧ k ≤ 155) ∨ (110 ≤ k ∧ k ≤ 113) → S1 k = F k
def mdK (F S2 : MS) : Prop := ∀ k, k ≤ 20 ∨ (39 ≤ k ∧ k ≤ 50) → S2 k = F k
theorem shd_of (c : clK F S1) (m : mdK F S2) : shd S1 S2 := fun k hk => (c k (by omega)).trans (m k (by omega)).symm
theorem agr_of (c : clK F S1) (m : mdK F S2) : agr F (syn S1 S2) := by
  refine ⟨fun k hk => ?_, (syn_c (by decide)).trans (c 60 (by decide)), (syn_c (by decide)).trans (c 160 (by decide)), fun j hj => ⟨(syn_c (by omega)).trans (c _ (by omega)), (syn_c (by omega)).trans (c _ (by omega))⟩, fun s hs => (syn_c (by omega)).trans (c _ (by omega))⟩
  unfold syn
  split
  · exact m k hk
  · exact c k (by omega)
theorem cl_eq (e : S1 = F) : clK F S1 := fun k _ => by rw [e]
theorem md_eq (e : S2 = F) : mdK F S2 := fun k _ => by rw [e]
theorem cl_fr {X : List Nat} (hf : fr X F S1) (hX : ∀ k, k ∈ X → ¬ ((1 ≤ k ∧ k ≤ 17) ∨ (39 ≤ k ∧ k ≤ 49) ∨ k = 60 ∨ k = 160 ∨ (70 ≤ k ∧ k ≤ 75) ∨ (150 ≤ k ∧ k ≤ 155) ∨ (110 ≤ k ∧ k ≤ 113))) : clK F S1 := fun k hk => hf k (fun w => hX k w hk)
theorem cl_2 {t : Nat} (ht : t < 6) (hf : fr [80 + t, 90 + t] F S1) : clK F S1 := cl_fr hf (fun k hk => by simp only [List.mem_cons, List.not_mem_nil, or_false] at hk; omega)
theorem cl_s {t : Nat} (ht : t < 6) (hf : fr (scC 0 t) F S1) : clK F S1 := cl_fr hf (fun k hk => by simp only [scC, List.mem_cons, List.not_mem_nil, or_false] at hk; omega)
theorem cl_q {t : Nat} (ht : t < 6) (hf : frQ t F S1) : clK F S1 := fun k hk => hf k (by omega) (by omega) (by omega) (by omega) (by omega) (by omega)
theorem md_s (hf : fr scr F S2) : mdK F S2 := fun k hk => hf k (fun w => by simp only [scr, List.mem_cons, List.not_mem_nil, or_false] at w; omega)
theorem md_51 (hf : fr [51] F S2) : mdK F S2 := fun k hk => hf k (fun w => by simp only [List.mem_cons, List.not_mem_nil, or_false] at w; omega)
end BPl
/-- what the calls stand on -/
theorem inv_all {S : MS} {Q : Qt} {B : Nat} (h : INV S Q.2.1 Q.2.2 B) (hB : B ≤ 40000) : ∃ n t tp kh kc kt, CH S Q n t ∧ HI S n ∧ J1 S n ∧ J2 S Q.2.1 ∧ J3 S Q.2.2 ∧ J4 S Q.2.2 t ∧ J5 S tp ∧ WB S ∧ J7 S B ∧ ATX S Q.2.2 ∧ ZC S Q.2.1 ∧ J11 S ∧ J12 S Q.2.1 Q.2.2 kh kc kt ∧ SHI S ∧ t < 6 := by
  obtain ⟨n, t, tp, kh, kc, kt, j1, j2, j3, j4, j5, j6, j7, j8, j9, j10, j11, j12, j13⟩ := h
  have h6 := j3.2.2
  have ht := j4.2.1
  have hTX : TX S Q t := ⟨j4.1, ht, h6, fun w hw => (j9 t ht w hw).1⟩
  have hTF : TF S := ⟨t, by omega, j4.1, by
    by_cases e : t = 0
    · exact Or.inl e
    · exact Or.inr (fun w hw => (j9 t ht w hw).2 e)⟩
  refine ⟨n, t, tp, kh, kc, kt, ⟨⟨j1.1, j1.2, hTX, j6, j8⟩, j2.1, j2.2, j4.2.2, j3.1, fun h hh => ?_⟩, ⟨j1.1, j1.2, j6.2.2, hTF⟩, j1, j2, j3, j4, j5, j6, j7, j9, j10, j11, j12, j13, by omega⟩
  obtain ⟨a, a1, a2⟩ := (j7 h (by have := j1.2; omega)).1
  exact ⟨a, by omega, a2⟩
/-- the script's ints -/
def xs (G : Gt) (j : Nat) : Int32 := Int32.ofNat (gA G (9 + j))
section LYr
variable {G : Gt} {d : Nat} {Y : Yt} {pc : Nat} {ls : List (Option Value)} {st : List Value} {h : Ht} {mc ms : Nat} {Post : Option Value → Ht → Prop}
theorem ly_x {j : Nat} {ix : Int32} (hd : decode Y.2.1 pc = .ok (.iaload, 1)) (hj : j < gA G 8) (hL : gA G 8 ≤ 384) (he : ix = nI j) (kk : AX G d Y (pc + 1) ls (.int (xs G j) :: st) h mc ms Post) : AX G d Y pc ls (.int ix :: .ref (gA G 7) :: st) h mc ms Post := by
  subst he
  exact ax_cald hd (fun U hU => hU.c.2.2.2.2.2.2.2.2) (vp_in_nI hj (by omega)) (by rw [nI_clamp (by omega)]; rfl) kk
theorem ly_arg {i k : Nat} {kc : Int} (hd0 : decode Y.2.1 pc = .ok (.aload_n 0, 1)) (hd1 : decode Y.2.1 (pc + 1) = .ok (.iload_n 3, 1)) (hd2 : decode Y.2.1 (pc + 1 + 1) = .ok (.iconst kc, 1)) (hk : Int32.ofInt kc = nI k) (hd3 : decode Y.2.1 (pc + 1 + 1 + 1) = .ok (.iadd, 1)) (hd4 : decode Y.2.1 (pc + 1 + 1 + 1 + 1) = .ok (.iaload, 1)) (h0 : ls[0]? = some (some (.ref (gA G 7)))) (h3 : ls[3]? = some (some (.int (nI i)))) (hj : i + k < gA G 8) (hL : gA G 8 ≤ 384) (kk : AX G d Y (pc + 1 + 1 + 1 + 1 + 1) ls (.int (xs G (i + k)) :: st) h mc ms Post) : AX G d Y pc ls st h mc ms Post := by
  refine ax_aload_n hd0 rfl h0 ?_
  refine ax_iload_n hd1 rfl h3 ?_
  refine ax_iconst hd2 hk ?_
  refine ax_iadd hd3 ?_
  exact ly_x hd4 hj hL (nI_add ..) kk
theorem ly_C {m : Nat → Prop} {M : Nat → va_E} {Q : Qt} {S : MS} {d1 index n x N : Nat} {T : u_T} {av st0 : List Value} {Yc : Yt} {P : Int32 → MS → Prop} (hp : CPic G m M Q S h) (hx : Q.1 0 0 = x) (hd : decode Y.2.1 pc = .ok (.invokevirtual index, 3)) (hl : cLLV Y.1.cls index Yc n) (hcl : vwCl[11]? = some (Yc.1.cls, T, N)) (hn : av.length = n) (hst : st0 = av.reverse ++ .ref x :: st) (hdd : d1 + 1 ≤ d) (hcat : (st.map fun v => v.category).sum ≤ 8) (hC : PC G (CPic G m M Q) d1 Yc (.ref (Q.1 0 0) :: av) S 0 0 (ri P)) (kk : ∀ v S1 h1, P v S1 → CPic G m M Q S1 h1 → AX G d Y (pc + 3) ls (.int v :: st) h1 mc ms Post) : AX G d Y pc ls st0 h mc ms Post := by
  subst hx
  exact ax_budget (Nat.le_of_eq (Nat.zero_add mc)) (Nat.le_of_eq (Nat.zero_add ms)) (ax_callV hd hl (hp.1 0 0 Nat.one_pos).1 (hp.1 0 0 Nat.one_pos).2.1 (hp.2.2.1 0 0 Nat.one_pos) hcl hn hst hdd hcat (hC h hp) (fun r h' hq => by obtain ⟨S', hp', v, rfl, hP⟩ := hq; exact kk v S' h' hP hp'))
theorem ly_C2 {m : Nat → Prop} {M : Nat → va_E} {Q : Qt} {S : MS} {d1 index n x N mc1 ms1 : Nat} {T : u_T} {av st0 : List Value} {Yc : Yt} {P : Int32 → MS × Qt → Prop} (hp : CPic G m M Q S h) (hx : Q.1 0 0 = x) (hd : decode Y.2.1 pc = .ok (.invokevirtual index, 3)) (hl : cLLV Y.1.cls index Yc n) (hcl : vwCl[11]? = some (Yc.1.cls, T, N)) (hn : av.length = n) (hst : st0 = av.reverse ++ .ref x :: st) (hdd : d1 + 1 ≤ d) (hcat : (st.map fun v => v.category).sum ≤ 8) (hC : PC G (C2 G m M) d1 Yc (.ref (Q.1 0 0) :: av) (S, Q) mc1 ms1 (ri P)) (kk : ∀ v p h1, P v p → CPic G m M p.2 p.1 h1 → AX G d Y (pc + 3) ls (.int v :: st) h1 mc ms Post) : AX G d Y pc ls st0 h (mc1 + mc) (ms1 + ms) Post := by
  subst hx
  exact ax_callV hd hl (hp.1 0 0 Nat.one_pos).1 (hp.1 0 0 Nat.one_pos).2.1 (hp.2.2.1 0 0 Nat.one_pos) hcl hn hst hdd hcat (hC h hp) (fun r h' hq => by obtain ⟨S', hp', v, rfl, hP⟩ := hq; exact kk v S' h' hP hp')
theorem ly_M {rm : Nat} {S : MS} {h0 : Ht} {d1 index n N : Nat} {T : u_T} {av st0 : List Value} {Yc : Yt} {P : Int32 → MS → Prop} (hp : MPic G rm h0 S h) (hd : decode Y.2.1 pc = .ok (.invokevirtual index, 3)) (hl : cLLV Y.1.cls index Yc n) (hcl : vwCl[12]? = some (Yc.1.cls, T, N)) (hn : av.length = n) (hst : st0 = av.reverse ++ .ref rm :: st) (hdd : d1 + 1 ≤ d) (hcat : (st.map fun v => v.category).sum ≤ 8) (hC : PC G (MPic G rm h0) d1 Yc (.ref rm :: av) S 0 0 (ri P)) (kk : ∀ v S1 h1, P v S1 → MPic G rm h0 S1 h1 → AX G d Y (pc + 3) ls (.int v :: st) h1 mc ms Post) : AX G d Y pc ls st0 h mc ms Post :=
  ax_budget (Nat.le_of_eq (Nat.zero_add mc)) (Nat.le_of_eq (Nat.zero_add ms)) (ax_callV hd hl hp.1 (by have := hp.2.1; omega) hp.2.2.2.1 hcl hn hst hdd hcat (hC h hp) (fun r h' hq => by obtain ⟨S', hp', v, rfl, hP⟩ := hq; exact kk v S' h' hP hp'))
end LYr
theorem c_X12_textF {S : MS} {t q : Nat} (hT : S 15 0 = nI t) (ht : t ≤ 160) (hQ : S 16 0 = nI q) (hq : q ≤ 6) : (∀ k, k ≠ 15 → k ≠ 16 → ¬ (18 ≤ k ∧ k ≤ 27) → (f_text S).2 k = S k) ∧ ∃ tp, tp ≤ 160 ∧ (f_text S).2 15 0 = nI tp := by
  by_cases h6 : q = 6
  · have hF : f_text S = (-4, S) := by rw [f_text, if_pos (by rw [hQ, h6]; rfl)]
    rw [hF]
    exact ⟨fun _ _ _ _ => rfl, t, ht, hT⟩
  · have hF := f_text_eq hT ht hQ (show q < 6 by omega)
    generalize zN (S 14) t (z00 S) = z1 at hF
    have a1 := tTT_fr (S := S) (t := t) (z := z1) (i := 3)
    have a2 := tTT_15 (S := S) (t := t) (z := z1) (i := 3)
    by_cases hzf : zF (txW (tx S t z1 3).2) < 0
    · have e : (f_text S).2 = tOK S t q (tx S t z1 3) := by rw [hF, txO, if_neg (not_not_intro hzf)]; rfl
      rw [e]
      unfold tOK tA
      generalize zL (txW (tx S t z1 3).2) = L
      generalize tTT S t (tx S t z1 3) = F at a1 a2
      refine ⟨fun k h15 h16 hk => ?_, 0, by decide, ?_⟩
      · rw [up2_ne h16, setA_ne (by omega), setA_ne (by omega), setA_ne (by omega)]
        exact a1 k (by simp only [List.mem_cons, List.not_mem_nil, or_false]; omega)
      · rw [up2_ne (by decide), setA_ne (by decide), setA_ne (by decide), setA_ne (by decide), a2, pk_us]
        rfl
    · have e : (f_text S).2 = tTT S t (tx S t z1 3) := by rw [hF, txO, if_pos hzf]; rfl
      rw [e]
      generalize tTT S t (tx S t z1 3) = F at a1 a2
      refine ⟨fun k h15 h16 hk => a1 k (by simp only [List.mem_cons, List.not_mem_nil, or_false]; omega), 0, by decide, ?_⟩
      rw [a2, pk_us]
      rfl
