/-! ROWS: new arrays, arrays of references, of arrays; copies -/
theorem aw_0 : Cond.arrayClass .int ∈ tb := (tb_1 68 rfl rfl)
theorem aw_1 : Cond.arrayClass .byte ∈ tb := (tb_1 110 rfl rfl)
theorem aw_2 : Cond.arrayClass .boolean ∈ tb := (tb_5 225 rfl rfl)
theorem lJ7_304 : cLLS RJ7 304 YJ9_min_7cf53 2 := ⟨yc_J9_min_7cf53, (tb_4 50 rfl rfl), (tb_3 39 rfl rfl), (tb_1 14 rfl rfl)⟩
theorem cp_J7_150 : Cond.methodLink RJ7 150 arraycopyName ∈ tb := (tb_4 51 rfl rfl)
theorem kl_X11_16 : Cond.classLink RX11 16 RX2 ∈ tb := (tb_1 69 rfl rfl)
theorem kl_X11_29 : Cond.classLink RX11 29 RX9 ∈ tb := (tb_1 111 rfl rfl)
theorem kl_X5_18 : Cond.classLink RX5 18 RX2 ∈ tb := (tb_1 168 rfl rfl)
theorem kl_X11_49 : Cond.classLink RX11 49 "[[I" ∈ tb := (tb_1 192 rfl rfl)
theorem kl_X5_24 : Cond.classLink RX5 24 "[[I" ∈ tb := (tb_1 169 rfl rfl)
section AXn
variable {G : Gt} {d : Nat} {Y : Yt} {pc : Nat} {ls : List (Option Value)} {st : List Value} {h : Ht} {mc ms : Nat} {Post : Option Value → Ht → Prop}
theorem ax_anew {index t N : Nat} {r : String} {n : Int32} (hd : decode Y.2.1 pc = .ok (.anewarray index, 3)) (hl : Cond.classLink Y.1.cls index r ∈ tb) (ht : (gT G)[t]? = some (gC G t, .object r)) (hov : .object r ∈ overW) (hn : ¬ n < 0) (hN : n.toNatClampNeg = N) (hb : N ≤ 100000) {mc1 ms1 : Nat} (hm : mc1 + 1 ≤ mc) (hs : ms1 + N ≤ ms) (kk : AX G d Y (pc + 3) ls (.ref h.1 :: st) (h.1 + 1, va_up h.2 h.1 (.inl (gC G t, N, .inr (.inr (.inr (.inr (fun _ => none))))))) mc1 ms1 Post) : AX G d Y pc ls (.int n :: st) h mc ms Post := by
  refine ax_budget hm hs ?_
  intro p e R s m args below meth c Q H locs cells slots jl ac hp hS hl9 hce hs kr
  subst hN
  refine W.anew ac.1 ac.2.1 ac.own (ac.hts _ hl) (va_AO.use (ac.gs.2.2.2.2.2.2.2.1 _ hov)) rfl hd rfl hn (by omega) (by omega) (by omega) fun cA kA comp f1 f2 f3 f4 => ?_
  have hcA : cA = gC G t := by
    obtain ⟨kA', comp', k1, k2, k3, k4⟩ := (ac.gs.1.2 t _ ht).2
    exact Option.some.inj (f1.symm.trans k4)
  subst hcA
  have z1 : (H.push { cls := gC G t, slots := Array.replicate n.toNatClampNeg Value.null, vm := .none }).size = H.size + 1 := by simp
  have o1 : ∀ q : Nat, q < H.size → (H.push { cls := gC G t, slots := Array.replicate n.toNatClampNeg Value.null, vm := .none })[q]? = H[q]? := fun q hq => by rw [Array.getElem?_push, if_neg (Nat.ne_of_lt hq)]
  rw [hp.1]
  refine kk p e R s m args below meth c Q _ locs (cells + 1) (slots + n.toNatClampNeg) jl ac (hp.push ?_ z1 o1) (hS.more (by omega) o1) hl9 (by omega) (by omega) (fun r h' H' locs' cells' slots' pc' jl' hpo hp' hS' c1 c2 => kr r h' H' locs' cells' slots' pc' jl' hpo hp' hS' (by omega) (by omega))
  show (H.push _)[h.1]? = some (vp_cell _ _)
  rw [vp_cell_q, ← hp.1, arrV_new]
  simp
  rfl
/-- the heap behind an array of N arrays of K ints -/
def mnaH (G : Gt) (h : Ht) (N K : Nat) : Ht := (h.1 + 1 + N, fun a => if a = h.1 then .inl (gC G 5, N, .inr (.inr (.inr (.inr (fun j => some (h.1 + 1 + j)))))) else if h.1 < a ∧ a < h.1 + 1 + N then .inl (gC G 0, K, .inl (fun _ => 0)) else h.2 a)
theorem ax_mna {index N K : Nat} {n k : Int32} (hd : decode Y.2.1 pc = .ok (.multianewarray index 2, 4)) (hl : Cond.classLink Y.1.cls index "[[I" ∈ tb) (hn : ¬ n < 0) (hk : ¬ k < 0) (hN : n.toNatClampNeg = N) (hK : k.toNatClampNeg = K) (hb : N ≤ 1000) (hb2 : K ≤ 1000) {mc1 ms1 : Nat} (hm : mc1 + (1 + N) ≤ mc) (hs : ms1 + (N + N * K) ≤ ms) (kk : AX G d Y (pc + 4) ls (.ref h.1 :: st) (mnaH G h N K) mc1 ms1 Post) : AX G d Y pc ls (.int k :: .int n :: st) h mc ms Post := by
  refine ax_budget hm hs ?_
  intro p e R s m args below meth c Q H locs cells slots jl ac hp hS hl9 hce hs kr
  refine wm_mna ac.1 ac.2.1 ac.own (ac.hts _ hl) (ac.gs.2.2.2.2.2.2.2.1 (.array .int) (by simp [overW])) (ac.hts _ aw_0) rfl hd rfl hn hk hN hK hb hb2 (by omega) (by omega) hp.1 fun H1 cA comp f1 f2 z1 o1 g1 g2 => ?_
  have hcA : cA = gC G 5 := Option.some.inj (f1.symm.trans (ac.gs.1.2 5 _ rfl).2)
  have hcI : comp = gC G 0 := Option.some.inj (f2.symm.trans (ac.gs.1.2 0 _ rfl).2)
  subst hcA
  subst hcI
  have hB := hp.2.1
  have o2 : ∀ q : Nat, q < H.size → H1[q]? = H[q]? := fun q hq => o1 q (by rw [← hp.1]; exact hq)
  refine kk p e R s m args below meth c Q H1 locs _ _ jl ac ⟨z1, Nat.le_trans hB (by show h.1 ≤ h.1 + 1 + N; omega), fun a ha hq => ?_⟩ (hS.more (by rw [z1, hp.1]; omega) o2) hl9 (by omega) (by omega) (fun r h' H' locs' cells' slots' pc' jl' hpo hp' hS' c1 c2 => kr r h' H' locs' cells' slots' pc' jl' hpo hp' hS' (by omega) (by omega))
  have hq' : a < h.1 + 1 + N := hq
  show va_at (gD G) vwCl (a, if a = h.1 then _ else if h.1 < a ∧ a < h.1 + 1 + N then _ else h.2 a) H1
  by_cases e1 : a = h.1
  · rw [if_pos e1, e1]
    show H1[h.1]? = some (vp_cell _ _)
    rw [vp_cell_q]
    exact g1
  · rw [if_neg e1]
    by_cases e2 : h.1 < a ∧ a < h.1 + 1 + N
    · rw [if_pos e2]
      show H1[a]? = some (vp_cell _ _)
      rw [vp_cell_i]
      obtain ⟨j, rfl⟩ : ∃ j, a = h.1 + 1 + j := ⟨a - (h.1 + 1), by omega⟩
      exact g2 j (by omega)
    · rw [if_neg e2]
      exact (hp.2.2 a ha (by omega)).kept (o1 a (by omega))
end AXn
section EXn
variable {G : Gt} {d : Nat} {Y : Yt} {pc : Nat} {ls : List (Option Value)} {st : List Value} {S : Ht} {mc ms : Nat} {Post : Option Value → Ht → Prop}
theorem ex_newa {atype : ArrayType} {ty : FieldType} {t N : Nat} {n : Int32} (hd : decode Y.2.1 pc = .ok (.newarray atype, 2)) (hty : newarray.typeOf atype = ty) (ht : (gT G)[t]? = some (gC G t, ty)) (hprim : ty = .int ∨ ty = .byte ∨ ty = .boolean) (hw : Cond.arrayClass ty ∈ tb) (hn : ¬ n < 0) (hN : n.toNatClampNeg = N) (hb : N ≤ 100000) {mc1 ms1 : Nat} (hm : mc1 + 1 ≤ mc) (hs : ms1 + N ≤ ms) (kk : PX G EP d Y (pc + 2) ls (.ref S.1 :: st) (S.1 + 1, va_up S.2 S.1 (.inl (gC G t, N, .inl (fun _ => 0)))) mc1 ms1 Post) : PX G EP d Y pc ls (.int n :: st) S mc ms Post := by
  intro h hp
  obtain rfl := hp.symm
  exact ax_budget hm hs (ax_newa hd hty ht hprim hw hn hN hb (kk _ rfl))
theorem ex_new' {index ci N : Nat} {fs : List Value} (hd : decode Y.2.1 pc = .ok (.new index, 3)) (hw : NW Y.1.cls index ci fs N) {mc1 ms1 : Nat} (hm : mc1 + 1 ≤ mc) (hs : ms1 + N ≤ ms) (kk : PX G EP d Y (pc + 3) ls (.ref S.1 :: st) (S.1 + 1, va_up S.2 S.1 (.inr (ci, fs))) mc1 ms1 Post) : PX G EP d Y pc ls st S mc ms Post := by
  intro h hp
  obtain rfl := hp.symm
  exact ax_budget hm hs (ax_new hd hw (kk _ rfl))
theorem ex_alen {a : Nat} {t : Nat} {ty : FieldType} {x : vp_A} {v : Int32} (hd : decode Y.2.1 pc = .ok (.arraylength, 1)) (hB : gB G ≤ a) (hn : a < S.1) (hc : S.2 a = .inl (gC G t, x)) (ht : (gT G)[t]? = some (gC G t, ty)) (hv : Int32.ofNat x.1 = v) (kk : PX G EP d Y (pc + 1) ls (.int v :: st) S mc ms Post) : PX G EP d Y pc ls (.ref a :: st) S mc ms Post := by
  intro h hp
  obtain rfl := hp.symm
  exact ax_alen hd hB hn hc ht hv (kk _ rfl)
theorem ex_copy {index a0 a n0 n1 : Nat} {f g : Nat → Int32} {sp dp n : Int32} (hd : decode Y.2.1 pc = .ok (.invokestatic index, 3)) (hl : Cond.methodLink Y.1.cls index arraycopyName ∈ tb) (hd1 : 1 ≤ d) (hB0 : gB G ≤ a0) (hn0 : a0 < S.1) (hc0 : S.2 a0 = .inl (gC G 0, n0, .inl f)) (hB : gB G ≤ a) (hn1 : a < S.1) (hc1 : S.2 a = .inl (gC G 0, n1, .inl g)) (h1 : ¬ sp < 0) (h2 : ¬ dp < 0) (h3 : ¬ n < 0) (h4 : sp.toNatClampNeg + n.toNatClampNeg ≤ n0) (h5 : dp.toNatClampNeg + n.toNatClampNeg ≤ n1) (hcat : (st.map fun v => v.category).sum ≤ 8) (kk : PX G EP d Y (pc + 3) ls st (S.1, va_up S.2 a (.inl (gC G 0, n1, .inl (va_cpy f g sp.toNatClampNeg dp.toNatClampNeg n.toNatClampNeg)))) mc ms Post) : PX G EP d Y pc ls (.int n :: .int dp :: .ref a :: .int sp :: .ref a0 :: st) S mc ms Post := by
  intro h hp
  obtain rfl := hp.symm
  exact ax_copy hd hl hd1 hB0 hn0 hc0 hB hn1 hc1 h1 h2 h3 h4 h5 hcat (kk _ rfl)
theorem ex_iast {a n : Nat} {f : Nat → Int32} {i x : Int32} (hd : decode Y.2.1 pc = .ok (.iastore, 1)) (hB : gB G ≤ a) (hn : a < S.1) (hc : S.2 a = .inl (gC G 0, n, .inl f)) (hin : vp_in i n) (kk : PX G EP d Y (pc + 1) ls st (S.1, va_up S.2 a (.inl (gC G 0, n, .inl (upd f i.toNatClampNeg x)))) mc ms Post) : PX G EP d Y pc ls (.int x :: .int i :: .ref a :: st) S mc ms Post := by
  intro h hp
  obtain rfl := hp.symm
  exact ax_iast hd hB hn hc hin (kk _ rfl)
end EXn
/-! rows over a heap that holds the class: what follows may speak of the heap -/
section AYr
variable {G : Gt} {m : Nat → Prop} {M0 : Nat → va_E} {Q : Qt} {d : Nat} {Y : Yt} {pc : Nat} {ls : List (Option Value)} {st : List Value} {S : MS} {h : Ht} {mc ms : Nat} {Post : Option Value → Ht → Prop}
theorem ay_get (hp : CPic G m M0 Q S h) {index k i ci f : Nat} {ty : FieldType} {fin : Bool} {fs : List Value} {v : Value} (hd : decode Y.2.1 pc = .ok (.getfield index, 3)) (hg : GF Y.1.cls index ci f ty fin) (he : cE G Q S k i = .inr (ci, fs)) (hl : i < lim Q k) (hv : fs[f]? = some v) (kk : AX G d Y (pc + 3) ls (v :: st) h mc ms Post) : AX G d Y pc ls (.ref (Q.1 k i) :: st) h mc ms Post :=
  ax_get hd hg (hp.1 k i hl).1 (hp.1 k i hl).2.1 ((hp.2.2.1 k i hl).trans he) hv kk
theorem ay_put (hp : CPic G m M0 Q S h) {index k i ci f r j : Nat} {ty : FieldType} {fs : List Value} {x : Int32} (hd : decode Y.2.1 pc = .ok (.putfield index, 3)) (hg : GF Y.1.cls index ci f ty false) (he : cE G Q S k i = .inr (ci, fs)) (hl : i < lim Q k) (hk0 : f < fs.length) (hr : r ≠ 7 ∧ r ≠ 160) (how : ow r j = (k, i)) (he' : cE G Q (up2 S r j x) k i = .inr (ci, fs.set f (.int x))) (hnv : narrow ty (.int x) = .int x) (hfit : fits ty (.int x) = true) (kk : ∀ h', CPic G m M0 Q (up2 S r j x) h' → AX G d Y (pc + 3) ls st h' mc ms Post) : AX G d Y pc ls (.int x :: .ref (Q.1 k i) :: st) h mc ms Post :=
  ax_put hd hg (hp.1 k i hl).1 (hp.1 k i hl).2.1 ((hp.2.2.1 k i hl).trans he) hk0 hnv hfit (kk _ (hp.up hl hr how he'))
theorem ay_callV0 (hp : CPic G m M0 Q S h) {d1 index k i ci N : Nat} {fs : List Value} {T : u_T} {Y' : Yt} {P : MS → Prop} (hd : decode Y.2.1 pc = .ok (.invokevirtual index, 3)) (hl : cLLV Y.1.cls index Y' 0) (he : cE G Q S k i = .inr (ci, fs)) (hlm : i < lim Q k) (hcl : vwCl[ci]? = some (Y'.1.cls, T, N)) (hC : PC G (CPic G m M0 Q) d1 Y' [.ref (Q.1 k i)] S 0 0 (rv P)) (hdd : d1 + 1 ≤ d) (hcat : (st.map fun v => v.category).sum ≤ 8) (kk : ∀ S' h', P S' → CPic G m M0 Q S' h' → AX G d Y (pc + 3) ls st h' mc ms Post) : AX G d Y pc ls (.ref (Q.1 k i) :: st) h mc ms Post :=
  ax_budget (Nat.le_of_eq (Nat.zero_add mc)) (Nat.le_of_eq (Nat.zero_add ms)) (ax_callV hd hl (hp.1 k i hlm).1 (hp.1 k i hlm).2.1 ((hp.2.2.1 k i hlm).trans he) hcl (av := []) rfl rfl hdd hcat (hC h hp) (fun r h' hq => by obtain ⟨S', hp', rfl, hP⟩ := hq; exact kk S' h' hP hp'))
theorem ay_callV1 (hp : CPic G m M0 Q S h) {d1 index k i ci N : Nat} {fs : List Value} {T : u_T} {Y' : Yt} {v1 : Value} {P : MS → Prop} (hd : decode Y.2.1 pc = .ok (.invokevirtual index, 3)) (hl : cLLV Y.1.cls index Y' 1) (he : cE G Q S k i = .inr (ci, fs)) (hlm : i < lim Q k) (hcl : vwCl[ci]? = some (Y'.1.cls, T, N)) (hC : PC G (CPic G m M0 Q) d1 Y' [.ref (Q.1 k i), v1] S 0 0 (rv P)) (hdd : d1 + 1 ≤ d) (hcat : (st.map fun v => v.category).sum ≤ 8) (kk : ∀ S' h', P S' → CPic G m M0 Q S' h' → AX G d Y (pc + 3) ls st h' mc ms Post) : AX G d Y pc ls (v1 :: .ref (Q.1 k i) :: st) h mc ms Post :=
  ax_budget (Nat.le_of_eq (Nat.zero_add mc)) (Nat.le_of_eq (Nat.zero_add ms)) (ax_callV hd hl (hp.1 k i hlm).1 (hp.1 k i hlm).2.1 ((hp.2.2.1 k i hlm).trans he) hcl (av := [v1]) rfl rfl hdd hcat (hC h hp) (fun r h' hq => by obtain ⟨S', hp', rfl, hP⟩ := hq; exact kk S' h' hP hp'))
/-- more cells -/
theorem CPic.grow (hp : CPic G m M0 Q S h) {h' : Ht} (h1 : h.1 ≤ h'.1) (h2 : ∀ q, q < h.1 → h'.2 q = h.2 q) : CPic G m M0 Q S h' := by
  obtain ⟨p1, p2, p3, p4, p5⟩ := hp
  exact ⟨fun k i hl => ⟨(p1 k i hl).1, Nat.lt_of_lt_of_le (p1 k i hl).2.1 h1, (p1 k i hl).2.2⟩, p2, fun k i hl => (h2 _ (p1 k i hl).2.1).trans (p3 k i hl), ⟨fun a ha => Nat.lt_of_lt_of_le (p4.1 a ha) h1, p4.2⟩, fun a ha => (h2 a (p4.1 a ha)).trans (p5 a ha)⟩
/-- one cell more is kept -/
theorem CPic.keep (hp : CPic G m M0 Q S h) {e : Nat} {E : va_E} (h1 : e < h.1) (h2 : h.2 e = E) (h3 : ∀ k i, i < lim Q k → Q.1 k i ≠ e) (h4 : ¬ m e) : CPic G (fun a => m a ∨ a = e) (va_up M0 e E) Q S h := by
  obtain ⟨p1, p2, p3, p4, p5⟩ := hp
  refine ⟨fun k i hl => ⟨(p1 k i hl).1, (p1 k i hl).2.1, fun q => q.elim (p1 k i hl).2.2 (h3 k i hl)⟩, p2, p3, ⟨fun a ha => ha.elim (p4.1 a) (fun q => q ▸ h1), p4.2⟩, fun a ha => ?_⟩
  rcases ha with ha | ha
  · rw [va_up_ne _ _ (show a ≠ e from fun q => h4 (by rw [← q]; exact ha))]
    exact p5 a ha
  · subst ha
    rw [va_up_self]
    exact h2
theorem CPic.free (hp : CPic G m M0 Q S h) {m1 : Nat → Prop} {M1 : Nat → va_E} (h1 : ∀ a, m1 a → m a ∧ M0 a = M1 a) : CPic G m1 M1 Q S h := by
  obtain ⟨p1, p2, p3, p4, p5⟩ := hp
  exact ⟨fun k i hl => ⟨(p1 k i hl).1, (p1 k i hl).2.1, fun q => (p1 k i hl).2.2 (h1 _ q).1⟩, p2, p3, ⟨fun a ha => p4.1 a (h1 a ha).1, p4.2⟩, fun a ha => (p5 a (h1 a ha).1).trans (h1 a ha).2⟩
end AYr
set_option maxHeartbeats 400000 in
set_option maxRecDepth 100000 in
theorem c_copyOf (G : Gt) (S : Ht) (a n0 n : Nat) (f : Nat → Int32) (hB : gB G ≤ a) (ha : a < S.1) (hc : S.2 a = .inl (gC G 0, n0, .inl f)) (hn : n < n0) (hn0 : n0 ≤ 100000) : CX G 2 YJ7_copyOf_59c91 [.ref a, .int (nI n)] S 1 n (fun r h' => r = some (.ref S.1) ∧ h' = (S.1 + 1, va_up S.2 S.1 (.inl (gC G 0, n, .inl (va_cpy f (fun _ => 0) 0 0 n))))) := by
  refine cx_ofF (ls := [some (.ref a), some (.int (nI n)), none]) (by decide +kernel) rfl (Nat.le_of_ble_eq_true rfl) ?_
  suffices k : PX G EP 2 YJ7_copyOf_59c91 0 [some (.ref a), some (.int (nI n)), none] [] S 1 n (rr (fun x S' => x = .ref S.1 ∧ S' = (S.1 + 1, va_up S.2 S.1 (.inl (gC G 0, n, .inl (va_cpy f (fun _ => 0) 0 0 n)))))) by
    refine ax_post (fun r h' hq => ?_) (k S rfl)
    obtain ⟨S', hS', x, rfl, rfl, rfl⟩ := hq
    exact ⟨rfl, hS'⟩
  refine px_iload_n dJ7_copyOf_59c91_0 rfl rfl ?_
  refine px_aload_n dJ7_copyOf_59c91_1 rfl rfl ?_
  refine ex_alen (t := 0) dJ7_copyOf_59c91_2 hB ha hc rfl (v := nI n0) rfl ?_
  refine px_icmp_ne (tgt := 14) dJ7_copyOf_59c91_3 (by decide) (fun H3 => ?_) (fun H3 => absurd (eq_n (by omega) (by omega) H3) (by omega))
  refine px_iload_n dJ7_copyOf_59c91_14 rfl rfl ?_
  refine ex_newa (mc1 := 0) (ms1 := 0) (t := 0) (N := n) dJ7_copyOf_59c91_15 rfl rfl (Or.inl rfl) aw_0 (nI_nneg (by omega)) (nI_clamp (by omega)) (by omega) (by omega) (by omega) ?_
  refine px_astore_n2 dJ7_copyOf_59c91_17 (by decide) rfl ?_
  refine px_aload_n dJ7_copyOf_59c91_18 rfl rfl ?_
  refine px_iconst (v := 0) dJ7_copyOf_59c91_19 (by decide) ?_
  refine px_aload_n dJ7_copyOf_59c91_20 rfl rfl ?_
  refine px_iconst (v := 0) dJ7_copyOf_59c91_21 (by decide) ?_
  refine px_aload_n dJ7_copyOf_59c91_22 rfl rfl ?_
  refine ex_alen (t := 0) dJ7_copyOf_59c91_23 hB (Nat.lt_succ_of_lt ha) (by show va_up _ _ _ a = _; rw [va_up_ne _ _ (by omega)]; exact hc) rfl (v := nI n0) rfl ?_
  refine px_iload_n dJ7_copyOf_59c91_24 rfl rfl ?_
  refine px_pure2 dJ7_copyOf_59c91_25 lJ7_304 (c_J9_min_7cf53 G _ _) (by decide) (Nat.le_of_ble_eq_true rfl) ?_
  rw [show jMin (nI n0) (nI n) = nI n by unfold jMin; rw [if_pos ((nI_ltI (by omega) (by omega)).mpr hn)]]
  refine ex_copy (n0 := n0) (n1 := n) (f := f) (g := fun _ => 0) dJ7_copyOf_59c91_28 cp_J7_150 (by decide) hB (Nat.lt_succ_of_lt ha) (by show va_up _ _ _ a = _; rw [va_up_ne _ _ (by omega)]; exact hc) (Nat.le_of_lt (Nat.lt_of_le_of_lt hB ha)) (Nat.lt_succ_self _) (va_up_self _ _ _) (by decide) (by decide) (nI_nneg (by omega)) (by rw [nI_clamp (by omega)]; show 0 + n ≤ n0; omega) (by rw [nI_clamp (by omega)]; show 0 + n ≤ n; omega) (Nat.le_of_ble_eq_true rfl) ?_
  refine px_aload_n dJ7_copyOf_59c91_31 rfl rfl ?_
  refine px_areturn dJ7_copyOf_59c91_32 rfl (Or.inr ⟨_, rfl⟩) (Or.inr ⟨_, rfl⟩) ⟨rfl, ?_⟩
  rw [nI_clamp (by omega)]
  show ((_, va_up (va_up _ _ _) _ _) : Ht) = _
  rw [va_up_up]
  rfl
set_option maxHeartbeats 400000 in
set_option maxRecDepth 100000 in
theorem c_X9_init (G : Gt) (S : Ht) (a c e len : Nat) (x : Nat → Int32) (hB : gB G ≤ a) (ha : a < S.1) (hc : S.2 a = .inr (9, [.null, .null, .null, .null])) (hBc : gB G ≤ c) (hac : c < S.1) (hcc : S.2 c = .inl (gC G 0, len, .inl x)) (hl : len ≤ 100000) (hne : c ≠ a) : PC G EP 2 Y9_init [.ref a, .ref c, .ref e] S 2 (6 + len) (rv (fun S' => S'.1 = S.1 + 2 ∧ S'.2 a = .inr (9, [.ref c, .ref e, .ref (S.1 + 1), .ref S.1]) ∧ S'.2 S.1 = .inl (gC G 0, 6, .inl (fun _ => 0)) ∧ S'.2 (S.1 + 1) = .inl (gC G 0, len, .inl (fun _ => 0)) ∧ ∀ q, q ≠ a → q < S.1 → S'.2 q = S.2 q)) := by
  refine pc_of (ls := [some (.ref a), some (.ref c), some (.ref e)]) (by decide +kernel) rfl (Nat.le_of_ble_eq_true rfl) ?_
  refine px_aload_n dX9_init_0 rfl rfl ?_
  refine ex_obj dX9_init_1 (by decide) ol_9 (Nat.le_of_ble_eq_true rfl) ?_
  refine px_aload_n dX9_init_4 rfl rfl ?_
  refine px_bipush (v := 6) dX9_init_5 (by decide) ?_
  refine ex_newa (mc1 := 1) (ms1 := len) (t := 0) (N := 6) dX9_init_7 rfl rfl (Or.inl rfl) aw_0 (by decide) rfl (by decide) (by omega) (by omega) ?_
  refine ex_putF (k := 3) (fs := [.null, .null, .null, .null]) dX9_init_9 igX9_11 rfl hB (Nat.lt_succ_of_lt ha) (by show va_up _ _ _ a = _; rw [va_up_ne _ _ (by omega)]; exact hc) (Nat.le_of_ble_eq_true rfl) rfl rfl ?_
  refine px_aload_n dX9_init_12 rfl rfl ?_
  refine px_aload_n dX9_init_13 rfl rfl ?_
  refine ex_putF (k := 0) dX9_init_14 igX9_17 rfl hB (Nat.lt_succ_of_lt ha) (va_up_self _ _ _) (Nat.le_of_ble_eq_true rfl) rfl rfl ?_
  refine px_aload_n dX9_init_17 rfl rfl ?_
  refine px_aload_n dX9_init_18 rfl rfl ?_
  refine ex_putF (k := 1) dX9_init_19 igX9_20 rfl hB (Nat.lt_succ_of_lt ha) (va_up_self _ _ _) (Nat.le_of_ble_eq_true rfl) rfl rfl ?_
  refine px_aload_n dX9_init_22 rfl rfl ?_
  refine px_aload_n dX9_init_23 rfl rfl ?_
  refine ex_alen (t := 0) dX9_init_24 hBc (Nat.lt_succ_of_lt hac) (by show va_up (va_up (va_up (va_up _ _ _) _ _) _ _) _ _ c = _; rw [va_up_ne _ _ hne, va_up_ne _ _ hne, va_up_ne _ _ hne, va_up_ne _ _ (by omega)]; exact hcc) rfl (v := nI len) rfl ?_
  refine ex_newa (mc1 := 0) (ms1 := 0) (t := 0) (N := len) dX9_init_25 rfl rfl (Or.inl rfl) aw_0 (nI_nneg hl) (nI_clamp (by omega)) hl (by omega) (by omega) ?_
  refine ex_putF (k := 2) dX9_init_27 igX9_23 rfl hB (Nat.lt_succ_of_lt (Nat.lt_succ_of_lt ha)) (by show va_up _ _ _ a = _; rw [va_up_ne _ _ (show a ≠ S.1 + 1 by omega)]; exact va_up_self _ _ _) (Nat.le_of_ble_eq_true rfl) rfl rfl ?_
  refine px_return dX9_init_30 rfl ?_
  refine ⟨rfl, va_up_self _ _ _, ?_, ?_, fun q h1 h2 => ?_⟩
  · show va_up (va_up _ _ _) _ _ S.1 = _
    rw [va_up_ne _ _ (show S.1 ≠ a by omega), va_up_ne _ _ (show S.1 ≠ S.1 + 1 by omega)]
    show va_up (va_up (va_up (va_up _ _ _) _ _) _ _) _ _ S.1 = _
    rw [va_up_ne _ _ (show S.1 ≠ a by omega), va_up_ne _ _ (show S.1 ≠ a by omega), va_up_ne _ _ (show S.1 ≠ a by omega), va_up_self]
  · show va_up (va_up _ _ _) _ _ (S.1 + 1) = _
    rw [va_up_ne _ _ (show S.1 + 1 ≠ a by omega), va_up_self]
  · show va_up (va_up (va_up (va_up (va_up (va_up _ _ _) _ _) _ _) _ _) _ _) _ _ q = _
    rw [va_up_ne _ _ h1, va_up_ne _ _ (show q ≠ S.1 + 1 by omega), va_up_ne _ _ h1, va_up_ne _ _ h1, va_up_ne _ _ h1, va_up_ne _ _ (show q ≠ S.1 by omega)]
