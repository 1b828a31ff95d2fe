/-! THE CLASS: readTape -/
section RT
variable {G : Gt} {m : Nat → Prop} {M0 : Nat → va_E} {Q : Qt} {d : Nat} {Y : Yt} {pc : Nat} {ls : List (Option Value)} {st : List Value} {S : MS} {h : Ht} {mc ms : Nat} {Post : Option Value → Ht → Prop}
theorem ax_newa' {atype : ArrayType} {ty : FieldType} {t N : Nat} {n : Int32} (hd : decode Y.2.1 pc = .ok (.newarray atype, 2)) (hty : newarray.typeOf atype = ty) (ht : (gT G)[t]? = some (gC G t, ty)) (hprim : ty = .int ∨ ty = .byte ∨ ty = .boolean) (hw : Cond.arrayClass ty ∈ tb) (hn : ¬ n < 0) (hN : n.toNatClampNeg = N) (hb : N ≤ 100000) {mc1 ms1 : Nat} (hm : mc1 + 1 ≤ mc) (hs : ms1 + N ≤ ms) (kk : AX G d Y (pc + 2) ls (.ref h.1 :: st) (h.1 + 1, va_up h.2 h.1 (.inl (gC G t, N, .inl (fun _ => 0)))) mc1 ms1 Post) : AX G d Y pc ls (.int n :: st) h mc ms Post := ax_budget hm hs (ax_newa hd hty ht hprim hw hn hN hb kk)
theorem ax_new' {index ci N : Nat} {fs : List Value} (hd : decode Y.2.1 pc = .ok (.new index, 3)) (hw : NW Y.1.cls index ci fs N) {mc1 ms1 : Nat} (hm : mc1 + 1 ≤ mc) (hs : ms1 + N ≤ ms) (kk : AX G d Y (pc + 3) ls (.ref h.1 :: st) (h.1 + 1, va_up h.2 h.1 (.inr (ci, fs))) mc1 ms1 Post) : AX G d Y pc ls st h mc ms Post := ax_budget hm hs (ax_new hd hw kk)
theorem ay_icmp_ge {x y : Int32} {off : Int} {tgt : Nat} (hd : decode Y.2.1 pc = .ok (.if_icmp .ge off, 3)) (ht : (pc : Int) + off = (tgt : Int)) (kt : ¬ x < y → AX G d Y tgt ls st h mc ms Post) (kf : x < y → AX G d Y (pc + 3) ls st h mc ms Post) : AX G d Y pc ls (.int y :: .int x :: st) h mc ms Post := ax_icmp_ge hd ht (fun q => kt (Int32.not_lt.mpr q)) (fun q => kf (Int32.not_le.mp q))
/-- a kept cell changes -/
theorem CPic.kput (hp : CPic G m M0 Q S h) {e : Nat} {E : va_E} (he : m e) : CPic G m (va_up M0 e E) Q S (h.1, va_up h.2 e E) := by
  obtain ⟨p1, p2, p3, p4, p5⟩ := hp
  refine ⟨p1, p2, fun k i hl => ?_, p4, fun a ha => ?_⟩
  · show va_up h.2 e E (Q.1 k i) = _
    rw [va_up_ne _ _ (show Q.1 k i ≠ e from fun q => (p1 k i hl).2.2 (by rw [q]; exact he))]
    exact p3 k i hl
  · show va_up h.2 e E a = va_up M0 e E a
    by_cases q : a = e
    · subst q; rw [va_up_self, va_up_self]
    · rw [va_up_ne _ _ q, va_up_ne _ _ q]; exact p5 a ha
end RT
theorem rl_kb {S T : MS} {z : PZ} {i : Nat} (hi : i < 3) (h : RDL S T z) : T 62 1 = 262 + nI i ↔ zKy z (10 + nI i) = true := by
  have e1 : (262 : Int32) + nI i = 252 + nI (10 + i) := by rcases (by omega : i = 0 ∨ i = 1 ∨ i = 2) with rfl | rfl | rfl <;> rfl
  have e2 : (10 : Int32) + nI i = nI (10 + i) := by rcases (by omega : i = 0 ∨ i = 1 ∨ i = 2) with rfl | rfl | rfl <;> rfl
  rw [e1, e2]
  exact rl_key (by omega) (by omega) h
/-- one rule, as the class reads it -/
def zU1 (tp : Nat → Int32) (t : Nat) (x : Int32) (z : PZ) : PZ := if zKy z x = true then zN tp t z else zW z
def zU (tp : Nat → Int32) (t : Nat) (x : Int32) (z : PZ) : PZ := if zSg (zE6 tp t (zU1 tp t x z)) 59 = true then zN tp t (zE6 tp t (zU1 tp t x z)) else zW (zE6 tp t (zU1 tp t x z))
theorem zU1_i {tp : Nat → Int32} {t : Nat} {x : Int32} {z : PZ} (hz : Zi t z) : Zi t (zU1 tp t x z) := by
  unfold zU1
  split
  · exact zN_i hz
  · exact zW_i hz
theorem zU2_i {tp : Nat → Int32} {t : Nat} {x : Int32} {z : PZ} (hz : Zi t z) : Zi t (zE6 tp t (zU1 tp t x z)) := (zE6_g (tp := tp) (t := t) _ (zU1_i hz) (fun _ => Nat.le_add_left 6 _)).1
theorem zU_f {tp : Nat → Int32} {t : Nat} {x : Int32} {z : PZ} (h : ¬ zF z < 0) : zU tp t x z = z := by
  have e1 : zU1 tp t x z = z := by rw [zU1, if_neg (ky_f h), zW_x z h]
  rw [zU, e1, zE6_x z h, if_neg (sg_f h), zW_x z h]
theorem zU_R {tp : Nat → Int32} {t : Nat} {x : Int32} {z : PZ} (hz : Zi t z) : zU tp t x z = if zF z < 0 then zR tp t x z else z := by
  by_cases h : zF z < 0
  · rw [if_pos h]
    by_cases e : zKy z x = true
    · have e1 : zU1 tp t x z = zN tp t z := by rw [zU1, if_pos e]
      rw [zU, e1, zR, if_pos e]
    · have e1 : zU1 tp t x z = zW z := by rw [zU1, if_neg e]
      have hw := zW_f hz
      rw [zU, e1, zE6_x _ hw, if_neg (sg_f hw), zW_x _ hw, zR, if_neg e]
  · rw [if_neg h, zU_f h]
theorem tx_U {S : MS} {t : Nat} {z : PZ} {i : Nat} (hz : Zi t (tx S t z i).2) : (tx S t z (i + 1)).2 = zU (S 14) t (10 + nI i) (tx S t z i).2 := by
  rw [zU_R hz]
  by_cases h : zF (tx S t z i).2 < 0
  · rw [if_pos h, tx_go h]
  · rw [if_neg h, tx_no h]
/-- the ends that the class holds -/
def EN (S : MS) (t : Nat) (z : PZ) (i : Nat) (f : Nat → Int32) : Prop := zF (tx S t z i).2 < 0 → ∀ j, j < i → f j = (tx S t z i).1 20 (18 + j)
theorem EN.up {S T : MS} {t : Nat} {z : PZ} {i : Nat} {f : Nat → Int32} (hz : Zi t z) (ho : zO z = 0) (h : EN S t z i f) (hR : RDL S T (tx S t z (i + 1)).2) : EN S t z (i + 1) (upd f i (T 62 6)) := fun hf j hj => by
  obtain ⟨-, h0, L, a1, a2, a3⟩ := tx_s hz ho i hf
  rw [a3, up2_eq]
  by_cases e : j = i
  · subst e
    rw [pk_us, pk_us, (hR.2.1 hf).2.2.2.2.2.2.1]
  · rw [pk_un e, pk_un (show 18 + j ≠ 18 + i by omega), h h0 j (by omega)]
set_option maxHeartbeats 400000 in
set_option maxRecDepth 100000 in
theorem lp_rt (G : Gt) (m : Nat → Prop) (M0 : Nat → va_E) (Q : Qt) (S : MS) (t : Nat) (z1 : PZ) (e mc ms : Nat) (hG : TP G S t) (hz1 : Zi t z1) (ho : zO z1 = 0) (hBe : gB G ≤ e) (Post : Option Value → Ht → Prop) (K : ∀ (T : MS) (f : Nat → Int32) (h : Ht), CPic G (fun a => m a ∨ a = e) (va_up M0 e (.inl (gC G 0, 3, .inl f))) Q T h → RDL S T (tx S t z1 3).2 → EN S t z1 3 f → AX G 53 Y7_readTape 68 [some (.ref (Q.1 9 0)), some (.ref e), some (.int (nI 3))] [] h mc ms Post) : ∀ (kk i : Nat) (T : MS) (f : Nat → Int32) (h : Ht), CPic G (fun a => m a ∨ a = e) (va_up M0 e (.inl (gC G 0, 3, .inl f))) Q T h → RDL S T (tx S t z1 i).2 → EN S t z1 i f → i ≤ 3 → 4 ≤ i + kk → AX G 53 Y7_readTape 30 [some (.ref (Q.1 9 0)), some (.ref e), some (.int (nI i))] [] h mc ms Post := by
  intro kk
  induction kk with
  | zero => intro i T f h hp hR hE h1 h2; omega
  | succ kk ih =>
    intro i T f h hp hR hE h1 h2
    have hz := (tx_g (S := S) hz1 ho i).1
    refine ax_iload_n dX7_readTape_30 rfl rfl ?_
    refine ax_aload_n dX7_readTape_31 rfl rfl ?_
    refine ax_alen (t := 0) dX7_readTape_32 hBe (hp.2.2.2.1.1 e (Or.inr rfl)) ((hp.2.2.2.2 e (Or.inr rfl)).trans (va_up_self _ _ _)) rfl (v := nI 3) rfl ?_
    refine ay_icmp_ge (tgt := 68) dX7_readTape_33 (by decide) (fun H33 => ?_) (fun H33 => ?_)
    · skip
      obtain rfl : i = 3 := by have := ge_n (a := i) (b := 3) (by omega) (by omega) H33; omega
      exact K T f h hp hR hE
    · skip
      have l3 : i < 3 := lt_n (a := i) (b := 3) (by omega) (by omega) H33
      refine ax_aload_n dX7_readTape_36 rfl rfl ?_
      refine ax_sipush (v := 262) dX7_readTape_37 (by decide) ?_
      refine ax_iload_n dX7_readTape_40 rfl rfl ?_
      refine ax_iadd dX7_readTape_41 ?_
      refine ay_callV1 hp (k := 9) (i := 0) dX7_readTape_42 lX7_38 rfl Nat.one_pos rfl (c_X7_need G (fun a => m a ∨ a = e) (va_up M0 e (.inl (gC G 0, 3, .inl f))) Q T S t (tx S t z1 i).2 (262 + nI i) (zKy (tx S t z1 i).2 (10 + nI i)) hG hR (rl_kb l3 hR) (fun q => (ky_y q).1) hz) (by decide) (Nat.le_of_ble_eq_true rfl) (fun S42 h Q42 hp => ?_)
      have R42 : RDL S S42 (zU1 (S 14) t (10 + nI i) (tx S t z1 i).2) := Q42
      refine ax_aload_n dX7_readTape_45 rfl rfl ?_
      refine ay_callV0 hp (k := 9) (i := 0) dX7_readTape_46 lX7_42 rfl Nat.one_pos rfl (r_E6 G (fun a => m a ∨ a = e) (va_up M0 e (.inl (gC G 0, 3, .inl f))) Q S t hG (zU1 (S 14) t (10 + nI i) (tx S t z1 i).2) S42 R42 (zU1_i hz) (fun _ => Nat.le_add_left 6 _)) (by decide) (Nat.le_of_ble_eq_true rfl) (fun S46 h Q46 hp => ?_)
      skip
      refine ax_aload_n dX7_readTape_49 rfl rfl ?_
      refine ax_bipush (v := 59) dX7_readTape_50 (by decide) ?_
      refine ay_callV1 hp (k := 9) (i := 0) dX7_readTape_52 lX7_38 rfl Nat.one_pos rfl (c_X7_need G (fun a => m a ∨ a = e) (va_up M0 e (.inl (gC G 0, 3, .inl f))) Q S46 S t (zE6 (S 14) t (zU1 (S 14) t (10 + nI i) (tx S t z1 i).2)) 59 (zSg (zE6 (S 14) t (zU1 (S 14) t (10 + nI i) (tx S t z1 i).2)) 59) hG Q46 (rl_sg (by decide) Q46) (fun q => (sg_y q).1) (zU2_i hz)) (by decide) (Nat.le_of_ble_eq_true rfl) (fun S52 h Q52 hp => ?_)
      have R52 : RDL S S52 (tx S t z1 (i + 1)).2 := rl_cg (tx_U hz).symm Q52
      refine ax_aload_n dX7_readTape_55 rfl rfl ?_
      refine ax_iload_n dX7_readTape_56 rfl rfl ?_
      refine ax_aload_n dX7_readTape_57 rfl rfl ?_
      refine ay_get hp (k := 9) (i := 0) (f := 9) dX7_readTape_58 gX7_32 rfl Nat.one_pos rfl ?_
      refine ax_iast dX7_readTape_61 hBe (hp.2.2.2.1.1 e (Or.inr rfl)) ((hp.2.2.2.2 e (Or.inr rfl)).trans (va_up_self _ _ _)) (vp_in_nI l3 (by decide)) ?_
      rw [nI_clamp (by omega)]
      have hp := hp.kput (e := e) (E := .inl (gC G 0, 3, .inl (upd f i (S52 62 6)))) (Or.inr rfl)
      rw [va_up_up] at hp
      generalize ((h.1, va_up h.2 e (.inl (gC G 0, 3, .inl (upd f i (S52 62 6))))) : Ht) = h at hp ⊢
      refine ax_iinc_2' (v := 1) dX7_readTape_62 (by decide) (by decide) rfl ?_
      refine ax_goto (tgt := 30) dX7_readTape_65 (by decide) ?_
      rw [nI_1]
      exact ih (i + 1) S52 (upd f i (S52 62 6)) h hp R52 (hE.up hz1 ho R52) (by omega) (by omega)
/-- a text that was just made, beside the class -/
def NT (G : Gt) (m : Nat → Prop) (Q : Qt) (h : Ht) (a c e n s len : Nat) (x f : Nat → Int32) : Prop :=
  (∀ q, q = a ∨ q = c ∨ q = e ∨ q = n ∨ q = s → gB G ≤ q ∧ q < h.1 ∧ ¬ m q ∧ ∀ k i, i < lim Q k → Q.1 k i ≠ q) ∧
  (a ≠ c ∧ a ≠ e ∧ a ≠ n ∧ a ≠ s ∧ c ≠ e ∧ c ≠ n ∧ c ≠ s ∧ e ≠ n ∧ e ≠ s ∧ n ≠ s) ∧
  h.2 a = .inr (9, [.ref c, .ref e, .ref s, .ref n]) ∧ h.2 c = .inl (gC G 0, len, .inl x) ∧ h.2 e = .inl (gC G 0, 3, .inl f) ∧ h.2 n = .inl (gC G 0, 6, .inl (fun _ => 0)) ∧ h.2 s = .inl (gC G 0, len, .inl (fun _ => 0))
/-- what readTape leaves -/
def RTP (G : Gt) (m : Nat → Prop) (M0 : Nat → va_E) (Q : Qt) (S : MS) (r : PZ) (E20 : Nat → Int32) (rv : Option Value) (h : Ht) : Prop :=
  ∃ T, CPic G m M0 Q T h ∧ fr [15, 62, 63] S T ∧ T 15 = upd (S 15) 0 0 ∧ ((¬ zF r < 0 ∧ rv = some .null ∧ T 62 0 = zF r) ∨ (zF r < 0 ∧ ∃ a c e n s x f, rv = some (.ref a) ∧ NT G m Q h a c e n s (zL r).length x f ∧ (∀ (i : Nat) (hi : i < (zL r).length), x i = enc (zL r)[i].1 (zL r)[i].2) ∧ ∀ j, j < 3 → f j = E20 (18 + j)))
theorem tx_len {S : MS} {t : Nat} {z : PZ} (hz : Zi t z) (ho : zO z = 0) (hL : zL z = []) (h : zF (tx S t z 3).2 < 0) : (zL (tx S t z 3).2).length < 160 := by
  have stp : ∀ i, zF (tx S t z (i + 1)).2 < 0 → zF (tx S t z i).2 < 0 ∧ (zL (tx S t z (i + 1)).2).length + zA (tx S t z i).2 + 1 ≤ zA (tx S t z (i + 1)).2 + (zL (tx S t z i).2).length := fun i hf => by
    have g := tx_g (S := S) hz ho i
    have h0 := (tx_s hz ho i hf).2.1
    refine ⟨h0, ?_⟩
    rw [tx_go h0] at hf ⊢
    generalize (tx S t z i).2 = r at *
    have hf' : zF (zR (S 14) t (10 + nI i) r) < 0 := hf
    show (zL (zR (S 14) t (10 + nI i) r)).length + zA r + 1 ≤ zA (zR (S 14) t (10 + nI i) r) + _
    by_cases e : zKy r (10 + nI i) = true
    · obtain ⟨q1, q2, q3, q4, q5⟩ := zN_g (tp := S 14) g.1 (Or.inl (ky_y e).2.1)
      have g2 := zE6_g (tp := S 14) (t := t) (zN (S 14) t r) q1 (fun _ => Nat.le_add_left 6 _)
      have g3 := g2.2.2.1
      rw [q3] at g3
      by_cases e2 : zSg (zE6 (S 14) t (zN (S 14) t r)) 59 = true
      · have eR : zR (S 14) t (10 + nI i) r = zN (S 14) t (zE6 (S 14) t (zN (S 14) t r)) := by rw [zR, if_pos e, if_pos e2]
        obtain ⟨r1, r2, r3, r4, r5⟩ := zN_g (tp := S 14) g2.1 (Or.inr (Or.inr (sg_y e2).2.1))
        rw [eR, r3]
        omega
      · have eR : zR (S 14) t (10 + nI i) r = zW (zE6 (S 14) t (zN (S 14) t r)) := by rw [zR, if_pos e, if_neg e2]
        rw [eR] at hf'
        exact absurd hf' (zW_f g2.1)
    · have eR : zR (S 14) t (10 + nI i) r = zW r := by rw [zR, if_neg e]
      rw [eR] at hf'
      exact absurd hf' (zW_f g.1)
  obtain ⟨f2, l2⟩ := stp 2 h
  obtain ⟨f1, l1⟩ := stp 1 f2
  obtain ⟨f0, l0⟩ := stp 0 f1
  have hg := (tx_g (S := S) hz ho 3).1
  have e0 : (zL (tx S t z 0).2).length = 0 := by rw [show (tx S t z 0).2 = z from rfl, hL]; rfl
  rw [show (0 : Nat) + 1 = 1 from rfl] at l0
  rw [show (1 : Nat) + 1 = 2 from rfl] at l1
  rw [show (2 : Nat) + 1 = 3 from rfl] at l2
  have := hg.1; have := hg.2.1; have := hg.2.2.1
  omega
set_option maxHeartbeats 400000 in
set_option maxRecDepth 100000 in
theorem rt_end (G : Gt) (m : Nat → Prop) (M0 : Nat → va_E) (Q : Qt) (S T : MS) (r : PZ) (E20 f : Nat → Int32) (e : Nat) (h : Ht) (hBe : gB G ≤ e) (hme : ¬ m e) (hp : CPic G (fun a => m a ∨ a = e) (va_up M0 e (.inl (gC G 0, 3, .inl f))) Q T h) (hR : RDL S T r) (hlen : zF r < 0 → (zL r).length < 160) (hE : zF r < 0 → ∀ j, j < 3 → f j = E20 (18 + j)) : AX G 53 Y7_readTape 79 [some (.ref (Q.1 9 0)), some (.ref e), some (.int (nI 3))] [] h 4 330 (RTP G m M0 Q S r E20) := by
  have hfree : ∀ a, m a → (m a ∨ a = e) ∧ va_up M0 e (.inl (gC G 0, 3, .inl f)) a = M0 a := fun a ha => ⟨Or.inl ha, va_up_ne _ _ (fun q => hme (by rw [← q]; exact ha))⟩
  have hf15 : up2 T 15 0 0 15 = upd (S 15) 0 0 := by rw [up2_eq, hR.1 15 (by decide)]
  have hfr : fr [15, 62, 63] S (up2 T 15 0 0) := (hR.1.mono (fun q hq => List.mem_cons_of_mem _ hq)).up List.mem_cons_self
  refine ax_aload_n dX7_readTape_79 rfl rfl ?_
  refine ax_iconst (v := 0) dX7_readTape_80 (by decide) ?_
  refine ay_put hp (k := 9) (i := 0) (f := 1) (r := 15) (j := 0) dX7_readTape_81 gX7_19 rfl Nat.one_pos (Nat.le_of_ble_eq_true rfl) (by decide) rfl (cpe_9_1 0 _) rfl rfl (fun h hp => ?_)
  refine ax_aload_n dX7_readTape_84 rfl rfl ?_
  refine ay_get hp (k := 9) (i := 0) (f := 0) dX7_readTape_85 gX7_23 rfl Nat.one_pos rfl ?_
  refine ax_iconst (v := (-1)) dX7_readTape_88 (by decide) ?_
  refine ax_icmp_ne (tgt := 114) dX7_readTape_89 (by decide) (fun H89 => ?_) (fun H89 => ?_)
  · skip
    have hzf : ¬ zF r < 0 := fun q => H89 ((show up2 T 15 0 0 62 0 = T 62 0 from rfl).trans (hR.2.1 q).1)
    refine ax_null dX7_readTape_114 ?_
    refine ax_areturn dX7_readTape_115 rfl (Or.inl ⟨_, rfl⟩) (Or.inl rfl) ?_
    exact ⟨up2 T 15 0 0, hp.free hfree, hfr, hf15, Or.inl ⟨hzf, rfl, (hR.2.2 hzf).1⟩⟩
  · skip
    have hzf : zF r < 0 := by
      by_cases q : zF r < 0
      · exact q
      · exfalso
        have e9 : zF r = -1 := ((hR.2.2 q).1).symm.trans H89
        exact q (by rw [e9]; decide)
    obtain ⟨r0, r1, r2, r3, r4, r5, r6, r7, r8⟩ := hR.2.1 hzf
    have hl := hlen hzf
    have hB : gB G ≤ h.1 := by have := hp.1 0 0 Nat.one_pos; omega
    have a11 := hp.1 11 0 Nat.one_pos
    refine ax_new' (mc1 := 3) (ms1 := 6 + 2 * (zL r).length) dX7_readTape_92 nX7_51 (by omega) (by omega) ?_
    refine ax_dup dX7_readTape_95 rfl ?_
    refine ax_aload_n dX7_readTape_96 rfl rfl ?_
    have hp2 : CPic G (fun a => m a ∨ a = e) (va_up M0 e (.inl (gC G 0, 3, .inl f))) Q (up2 T 15 0 0) (h.1 + 1, va_up h.2 h.1 (.inr (9, [.null, .null, .null, .null]))) := hp.grow (Nat.le_succ _) (fun q hq => va_up_ne _ _ (Nat.ne_of_lt hq))
    refine ay_get hp2 (k := 9) (i := 0) (f := 8) dX7_readTape_97 gX7_15 rfl Nat.one_pos rfl ?_
    refine ax_aload_n dX7_readTape_100 rfl rfl ?_
    refine ay_get hp2 (k := 9) (i := 0) (f := 9) dX7_readTape_101 gX7_32 rfl Nat.one_pos rfl ?_
    rw [show up2 T 15 0 0 62 6 = nI (zL r).length from r6]
    refine ax_budget (mc' := 1 + 2) (ms' := (zL r).length + (6 + (zL r).length)) (by omega) (by omega) (ax_callS dX7_readTape_104 lX7_53 (av := [.ref (Q.1 11 0), .int (nI (zL r).length)]) rfl rfl (by decide) (Nat.le_of_ble_eq_true rfl) (c_copyOf G (h.1 + 1, va_up h.2 h.1 (.inr (9, [.null, .null, .null, .null]))) (Q.1 11 0) 160 (zL r).length (up2 T 15 0 0 63) a11.1 (Nat.lt_succ_of_lt a11.2.1) (by show va_up _ _ _ _ = _; rw [va_up_ne _ _ (by omega)]; exact hp.2.2.1 11 0 Nat.one_pos) hl (by decide)) (fun r9 h9 hq => ?_))
    obtain ⟨rfl, rfl⟩ := hq
    refine ax_aload_n dX7_readTape_107 rfl rfl ?_
    have he1 : e < h.1 := hp.2.2.2.1.1 e (Or.inr rfl)
    refine ax_budget (mc' := 2 + 0) (ms' := (6 + (zL r).length) + 0) (by omega) (by omega) (ax_callI dX7_readTape_108 lX7_59 (av := [.ref (h.1 + 1), .ref e]) rfl rfl (by decide) (Nat.le_of_ble_eq_true rfl) (c_X9_init G _ h.1 (h.1 + 1) e (zL r).length _ hB (by show h.1 < h.1 + 1 + 1; omega) (by show va_up (va_up _ _ _) _ _ h.1 = _; rw [va_up_ne _ _ (by show h.1 ≠ h.1 + 1; omega), va_up_self]) (by omega) (by show h.1 + 1 < h.1 + 1 + 1; omega) (va_up_self _ _ _) (by omega) (by omega) _ rfl) (fun r9 h9 hq => ?_))
    obtain ⟨S9, hS9, rfl, q1, q2, q3, q4, q5⟩ := hq
    obtain rfl := hS9
    refine ax_goto (tgt := 115) dX7_readTape_111 (by decide) ?_
    refine ax_areturn dX7_readTape_115 rfl (Or.inl ⟨_, rfl⟩) (Or.inr ⟨_, rfl⟩) ?_
    have q1 : h9.1 = h.1 + 4 := q1
    have old : ∀ q, q < h.1 → h9.2 q = h.2 q := fun q hq => by
      rw [q5 q (by omega) (by show q < h.1 + 1 + 1; omega)]
      show va_up (va_up _ _ _) _ _ q = _
      rw [va_up_ne _ _ (by show q ≠ h.1 + 1; omega), va_up_ne _ _ (by omega)]
    have hp9 := hp.grow (h' := h9) (by omega) old
    have hfresh : ∀ q, h.1 ≤ q → q < h.1 + 4 → gB G ≤ q ∧ q < h9.1 ∧ ¬ m q ∧ ∀ k i, i < lim Q k → Q.1 k i ≠ q := fun q h1 h2 => ⟨by omega, by omega, fun q9 => by have := hp.2.2.2.1.1 q (Or.inl q9); omega, fun k i hl9 => by have := (hp.1 k i hl9).2.1; omega⟩
    have he0 : gB G ≤ e ∧ e < h9.1 ∧ ¬ m e ∧ ∀ k i, i < lim Q k → Q.1 k i ≠ e := ⟨hBe, by omega, hme, fun k i hl9 q9 => (hp.1 k i hl9).2.2 (Or.inr q9)⟩
    refine ⟨up2 T 15 0 0, hp9.free hfree, hfr, hf15, Or.inr ⟨hzf, h.1, h.1 + 1, e, h.1 + 2, h.1 + 3, va_cpy (up2 T 15 0 0 63) (fun _ => 0) 0 0 (zL r).length, f, rfl, ⟨fun q hq => ?_, ⟨by omega, by omega, by omega, by omega, by omega, by omega, by omega, by omega, by omega, by omega⟩, q2, ?_, ?_, q3, q4⟩, fun i hi => ?_, hE hzf⟩⟩
    · rcases hq with rfl | rfl | rfl | rfl | rfl
      · exact hfresh _ (by omega) (by omega)
      · exact hfresh _ (by omega) (by omega)
      · exact he0
      · exact hfresh _ (by omega) (by omega)
      · exact hfresh _ (by omega) (by omega)
    · rw [q5 (h.1 + 1) (by omega) (by show h.1 + 1 < h.1 + 1 + 1; omega)]
      exact va_up_self _ _ _
    · rw [old e he1]
      exact (hp.2.2.2.2 e (Or.inr rfl)).trans (va_up_self _ _ _)
    · show va_cpy _ _ _ _ _ i = _
      rw [va_cpy, if_pos ⟨Nat.zero_le _, by omega⟩, show 0 + (i - 0) = i by omega]
      exact r7 i hi
set_option maxHeartbeats 400000 in
set_option maxRecDepth 100000 in
theorem rt_mid (G : Gt) (m : Nat → Prop) (M0 : Nat → va_E) (Q : Qt) (S T : MS) (t : Nat) (r : PZ) (E20 f : Nat → Int32) (e : Nat) (h : Ht) (hz : Zi t r) (hBe : gB G ≤ e) (hme : ¬ m e) (hp : CPic G (fun a => m a ∨ a = e) (va_up M0 e (.inl (gC G 0, 3, .inl f))) Q T h) (hR : RDL S T r) (hlen : zF r < 0 → (zL r).length < 160) (hE : zF r < 0 → ∀ j, j < 3 → f j = E20 (18 + j)) : AX G 53 Y7_readTape 68 [some (.ref (Q.1 9 0)), some (.ref e), some (.int (nI 3))] [] h 4 330 (RTP G m M0 Q S (txW r) E20) := by
  refine ax_aload_n dX7_readTape_68 rfl rfl ?_
  refine ay_get hp (k := 9) (i := 0) (f := 3) dX7_readTape_69 gX7_45 rfl Nat.one_pos rfl ?_
  refine ax_if_eq (tgt := 79) dX7_readTape_72 (by decide) (fun H72 => ?_) (fun H72 => ?_)
  · skip
    obtain ⟨hf4, h4⟩ := (rl_end hR).mp H72
    have e9 : txW r = r := by rw [txW, if_neg (fun q => q.2 h4)]
    exact rt_end G m M0 Q S T (txW r) E20 f e h hBe hme hp (rl_cg e9.symm hR) (fun q => by rw [e9] at q ⊢; exact hlen q) (fun q => by rw [e9] at q; exact hE q)
  · skip
    have e9 : zW r = txW r := by
      by_cases q : zF r < 0
      · rw [txW, if_pos ⟨q, fun q4 => H72 ((rl_end hR).mpr ⟨q, q4⟩)⟩]
      · rw [txW, if_neg (fun q9 => q q9.1), zW_x r q]
    refine ax_aload_n dX7_readTape_75 rfl rfl ?_
    refine ay_callV0 hp (k := 9) (i := 0) dX7_readTape_76 lX7_48 rfl Nat.one_pos rfl (r_fail G (fun a => m a ∨ a = e) (va_up M0 e (.inl (gC G 0, 3, .inl f))) Q S T r t hR (fun _ => hz)) (by decide) (Nat.le_of_ble_eq_true rfl) (fun S76 h Q76 hp => ?_)
    have hnf : ¬ zF (txW r) < 0 := by rw [← e9]; exact zW_f hz
    exact rt_end G m M0 Q S S76 (txW r) E20 f e h hBe hme hp (rl_cg e9 Q76) (fun q => absurd q hnf) (fun q => absurd q hnf)
set_option maxHeartbeats 400000 in
set_option maxRecDepth 100000 in
theorem c_X7_readTape (G : Gt) (m : Nat → Prop) (M0 : Nat → va_E) (Q : Qt) (S : MS) (t : Nat) (h : Ht) (hG : TP G S t) (hp : CPic G m M0 Q S h) : CX G 53 Y7_readTape [.ref (Q.1 9 0)] h 5 333 (RTP G m M0 Q S (txW (tx S t (zN (S 14) t (z00 S)) 3).2) ((tx S t (zN (S 14) t (z00 S)) 3).1 20)) := by
  refine cx_of (ls := [some (.ref (Q.1 9 0)), none, none]) (by decide +kernel) rfl (Nat.le_of_ble_eq_true rfl) ?_
  refine ax_aload_n dX7_readTape_0 rfl rfl ?_
  refine ax_iconst (v := (-1)) dX7_readTape_1 (by decide) ?_
  refine ay_put hp (k := 9) (i := 0) (f := 0) (r := 62) (j := 0) dX7_readTape_2 gX7_23 rfl Nat.one_pos (Nat.le_of_ble_eq_true rfl) (by decide) rfl (cpe_9_0 0 _) rfl rfl (fun h hp => ?_)
  refine ax_aload_n dX7_readTape_5 rfl rfl ?_
  refine ax_iconst (v := 0) dX7_readTape_6 (by decide) ?_
  refine ay_put hp (k := 9) (i := 0) (f := 5) (r := 62) (j := 3) dX7_readTape_7 gX7_26 rfl Nat.one_pos (Nat.le_of_ble_eq_true rfl) (by decide) rfl (cpe_9_5 0 _) rfl rfl (fun h hp => ?_)
  refine ax_aload_n dX7_readTape_10 rfl rfl ?_
  refine ax_iconst (v := 0) dX7_readTape_11 (by decide) ?_
  refine ay_put hp (k := 9) (i := 0) (f := 7) (r := 62) (j := 5) dX7_readTape_12 gX7_29 rfl Nat.one_pos (Nat.le_of_ble_eq_true rfl) (by decide) rfl (cpe_9_7 0 _) rfl rfl (fun h hp => ?_)
  refine ax_aload_n dX7_readTape_15 rfl rfl ?_
  refine ax_iconst (v := 0) dX7_readTape_16 (by decide) ?_
  refine ay_put hp (k := 9) (i := 0) (f := 9) (r := 62) (j := 6) dX7_readTape_17 gX7_32 rfl Nat.one_pos (Nat.le_of_ble_eq_true rfl) (by decide) rfl (cpe_9_9 0 _) rfl rfl (fun h hp => ?_)
  refine ax_aload_n dX7_readTape_20 rfl rfl ?_
  refine ay_callV0 hp (k := 9) (i := 0) dX7_readTape_21 lX7_35 rfl Nat.one_pos rfl (c_X7_step G m M0 Q _ t 0 hG.1 rfl hG.2.1 (Nat.zero_le _) hG.2.2.1 hG.2.2.2) (by decide) (Nat.le_of_ble_eq_true rfl) (fun S21 h Q21 hp => ?_)
  have R21 : RDL S S21 (zN (S 14) t (z00 S)) := STP.rl0 (S := S) (z := z00 S) (((((fr.rf.up List.mem_cons_self).up List.mem_cons_self).up List.mem_cons_self).up List.mem_cons_self)) rfl rfl rfl (fun i hi => absurd hi (Nat.not_lt_zero i)) (by show (-1 : Int32) < 0; decide) (Nat.zero_le _) Q21
  have hz1 : Zi t (zN (S 14) t (z00 S)) := zN_i (z00_i hG.2.2.1)
  have ho1 : zO (zN (S 14) t (z00 S)) = 0 := rfl
  have hL1 : zL (zN (S 14) t (z00 S)) = [] := rfl
  generalize (zN (S 14) t (z00 S)) = z1 at R21 hz1 ho1 hL1 ⊢
  refine ax_iconst (v := 3) dX7_readTape_24 (by decide) ?_
  have hB : gB G ≤ h.1 := by have := hp.1 0 0 Nat.one_pos; omega
  refine ax_newa' (mc1 := 4) (ms1 := 330) (t := 0) (N := 3) dX7_readTape_25 rfl rfl (Or.inl rfl) aw_0 (by decide) rfl (by decide) (by omega) (by omega) ?_
  refine ax_astore_n1' dX7_readTape_27 (by decide) rfl ?_
  refine ax_iconst (v := 0) dX7_readTape_28 (by decide) ?_
  refine ax_istore_n2' dX7_readTape_29 (by decide) rfl ?_
  have hme : ¬ m h.1 := fun q => by have := hp.2.2.2.1.1 h.1 q; omega
  have hp2 := (hp.grow (h' := (h.1 + 1, va_up h.2 h.1 (.inl (gC G 0, 3, .inl (fun _ => 0))))) (Nat.le_succ _) (fun q hq => va_up_ne _ _ (Nat.ne_of_lt hq))).keep (e := h.1) (Nat.lt_succ_self _) (va_up_self _ _ _) (fun k i hl9 => by have := (hp.1 k i hl9).2.1; omega) hme
  exact lp_rt G m M0 Q S t z1 h.1 4 330 hG hz1 ho1 hB _ (fun T f h8 hp8 hR8 hE8 => rt_mid G m M0 Q S T t (tx S t z1 3).2 ((tx S t z1 3).1 20) f h.1 h8 (tx_g hz1 ho1 3).1 hB hme hp8 hR8 (tx_len hz1 ho1 hL1) hE8) 4 0 S21 (fun _ => 0) _ hp2 R21 (fun _ j hj => absurd hj (Nat.not_lt_zero j)) (Nat.zero_le _) (by omega)
