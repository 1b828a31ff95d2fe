/-! THE CLASS: rows for constant rows, arraycopy, super over two classes; methods of the JDK that no native row covers -/
theorem cx_ofF {G : Gt} {d : Nat} {Y : Yt} {av : List Value} {ls : List (Option Value)} {h : Ht} {mc ms : Nat} {Post : Option Value → Ht → Prop} (hy : plainFor Y.1 = true) (hls : enL av Y.2.2.1 = ls) (hlen : (lg_sl av).length ≤ Y.2.2.1) (k : AX G d Y 0 ls [] h mc ms Post) : CX G d Y av h mc ms Post := by
  unfold CX
  refine MetFree.of_bodySF (code := Y.2.1) (maxLocals := Y.2.2.1) (ret := Y.2.2.2) hy ?_ ?_
  · intro args s m q hn
    obtain ⟨meth, c, h1, h2, h3, h4, h5, h6, -, -⟩ := Cond.code_spec hn (atoms_spec (ws := yW Y) q _ (by unfold yW; exact List.mem_cons_self))
    exact ⟨meth, c, h1, h2, h3, h4, h5, h6⟩
  · intro p e s m args below meth c s₁ B hml hv _
    have hh0 : s₁.heap = s.heap := by rw [B.state]; rfl
    obtain ⟨rfl, hgs, hp⟩ := hv
    have hts := atoms_spec (ws := yW Y) B.pre
    have hown : s.vm.findClass Y.1.cls = some m.cls := findClass_of_methodNamed B.named
    have hlk := B.notSynchronized
    have hW : W p (gL G) e (headSpec (yW Y) (cRm d mc ms)).room s m av.toArray below meth c s.heap [] 0 0 (MQ below (cQ G Post) av.toArray s mc ms (gO G)) (entryFrame m av.toArray Y.2.2.1) := by
      rw [lg_entry_eq]
      subst hls
      refine k p e _ s m _ below meth c _ s.heap [] 0 0 _ ⟨B.exec, B.bytes, B.returns, hml, hown, fun w hw => hts w (List.mem_cons_of_mem _ hw), hlk, (name_of_methodNamed B.named B.method).1, hgs, Nat.le_refl _, Nat.le_refl _⟩ hp va_S.rf (LR.entry hlen) (by rw [Nat.zero_add]; exact Nat.le_refl _) (by rw [Nat.zero_add]; exact Nat.le_refl _) ?_
      intro r h' H' locs' cells' slots' pc' jl' hpo hp' hS' hc1 hc2 hri
      rw [Nat.zero_add] at hc1 hc2
      refine W.widen hc1 hc2 ?_
      rcases hri with ⟨e1, e2, e3⟩ | ⟨ty, v, e1, e2, e3, e4⟩ | ⟨rt, v, e1, e2, e3, e4, e5⟩
      · subst e2
        exact W.vret B.exec B.bytes (B.returns.trans e1) (fun t ht hW => ⟨⟨none, h', rfl, hpo, by rw [ht]; exact hp'⟩, hS'.F ht⟩) hS'.2.2 e3 hlk
      · subst e2
        exact W.zret B.exec B.bytes (B.returns.trans e1) e3 (fun t ht hW => ⟨⟨some (.int v), h', rfl, hpo, by rw [ht]; exact hp'⟩, hS'.F ht⟩) hS'.2.2 e4 hlk
      · subst e4
        exact W.aret B.exec B.bytes (B.returns.trans e1) e2 e3 (fun t ht hW => ⟨⟨some v, h', rfl, hpo, by rw [ht]; exact hp'⟩, hS'.F ht⟩) hS'.2.2 e5 hlk
    obtain ⟨t, a1, o, b1, b2, b3⟩ := hW s₁ hh0 (Stand.of_body B)
    exact ⟨t, o, a1, b1, b2, ⟨b3.1, b3.2⟩⟩
theorem ps_ofpF {G : Gt} {d : Nat} {Y : Yt} {av : List Value} {ls : List (Option Value)} {x : Int32} (hy : plainFor Y.1 = true) (hls : enL av Y.2.2.1 = ls) (hlen : (lg_sl av).length ≤ Y.2.2.1) (k : ∀ h : Ht, PX G (fun (S : Ht) (h : Ht) => h = S) d Y 0 ls [] h 0 0 (ri (fun v S' => v = x ∧ S' = h))) : PS G d Y av x :=
  fun h => cx_ofF hy hls hlen (ax_post (fun r h' hq => by obtain ⟨S', rfl, v, rfl, rfl, rfl⟩ := hq; exact ⟨rfl, rfl⟩) (k h h rfl))
theorem pc_ofF {σ : Type} {G : Gt} {Pic : σ → Ht → Prop} {d : Nat} {Y : Yt} {av : List Value} {ls : List (Option Value)} {S : σ} {mc ms : Nat} {Post : Option Value → σ → Prop} (hy : plainFor Y.1 = true) (hls : enL av Y.2.2.1 = ls) (hlen : (lg_sl av).length ≤ Y.2.2.1) (k : PX G Pic d Y 0 ls [] S mc ms Post) : PC G Pic d Y av S mc ms Post := fun h hp => cx_ofF hy hls hlen (k h hp)
section CRr
variable {G : Gt} {d : Nat} {Y : Yt} {pc : Nat} {ls : List (Option Value)} {st : List Value} {h : Ht} {mc ms : Nat} {Post : Option Value → Ht → Prop}
theorem ax_gets {index : Nat} {C n dsc : String} {v : Value} (hd : decode Y.2.1 pc = .ok (.getstatic index, 3)) (hZ : ∀ U : State, GS G U → va_Z C n dsc v (gO G) U U.heap) (hl : Cond.fieldLink Y.1.cls index C n dsc ∈ tb) (kk : AX G d Y (pc + 3) ls (v :: st) h mc ms Post) : AX G d Y pc ls st h mc ms Post :=
  fun p e R s m args below meth c Q H locs cells slots jl ac hp hS hlr hce hs kr => va_gets ac.1 ac.2.1 (hZ s ac.gs) hS ac.own (ac.hts _ hl) (fun _ h9 => h9) hd (kk p e R s m args below meth c Q H locs cells slots jl ac hp hS hlr hce hs kr)
theorem ax_getsN {index : Nat} {C n dsc : String} {v : Value} (hd : decode Y.2.1 pc = .ok (.getstatic index, 3)) (hZ : ∀ U : State, GS G U → va_Z C n dsc v (gO G) U U.heap) (hl : Cond.fieldLinkNest Y.1.cls index C n dsc RX11 ∈ nestF) (kk : AX G d Y (pc + 3) ls (v :: st) h mc ms Post) : AX G d Y pc ls st h mc ms Post :=
  fun p e R s m args below meth c Q H locs cells slots jl ac hp hS hlr hce hs kr => va_getsN ac.1 ac.2.1 (hZ s ac.gs) hS ac.own (va_Nw.use rfl (ac.gs.2.2.1 _ hl)) (fun _ h9 => h9) hd (kk p e R s m args below meth c Q H locs cells slots jl ac hp hS hlr hce hs kr)
theorem ax_cald {a N : Nat} {f : Nat → Value} {i : Int32} {v : Value} (hd : decode Y.2.1 pc = .ok (.iaload, 1)) (hT : ∀ U : State, GS G U → va_T .int a N f (gO G) U U.heap) (hin : vp_in i N) (hv : f i.toNatClampNeg = v) (kk : AX G d Y (pc + 1) ls (v :: st) h mc ms Post) : AX G d Y pc ls (.int i :: .ref a :: st) h mc ms Post :=
  fun p e R s m args below meth c Q H locs cells slots jl ac hp hS hlr hce hs kr => va_ti ac.1 ac.2.1 (hT s ac.gs) hS hin hv hd (kk p e R s m args below meth c Q H locs cells slots jl ac hp hS hlr hce hs kr)
theorem nfw_copy : nativeFrameWords "java/lang/System" "arraycopy" 5 ≤ 40 := by decide +kernel
theorem cw_native : Cond.native arraycopyName ∈ tb := (tb_4 53 rfl rfl)
theorem cw_static : Cond.static arraycopyName ∈ tb := (tb_4 52 rfl rfl)
theorem cw_sys : Cond.initialized "java/lang/System" ∈ tb := (tb_1 21 rfl rfl)
theorem nn_int {z : Int32} (hz : ¬ z < 0) : z.toInt = (z.toNatClampNeg : Int) := by
  have h1 := Int32.le_iff_toInt_le.mp (Int32.not_lt.mp hz)
  have h0 : (0 : Int32).toInt = 0 := rfl
  rw [h0] at h1
  show z.toInt = ((z.toInt.toNat : Nat) : Int)
  omega
theorem nI_nneg {n : Nat} (h : n ≤ 100000) : ¬ nI n < 0 := fun q => by have := (nI_ltI (b := 0) (by omega) (by omega)).mp q; omega
theorem ax_copy {index a0 a n0 n1 : Nat} {f g : Nat → Int32} {sp dp n : Int32} (hd : decode Y.2.1 pc = .ok (.invokestatic index, 3)) (hl : Cond.methodLink Y.1.cls index arraycopyName ∈ tb) (hd1 : 1 ≤ d) (hB0 : gB G ≤ a0) (hn0 : a0 < h.1) (hc0 : h.2 a0 = .inl (gC G 0, n0, .inl f)) (hB : gB G ≤ a) (hn1 : a < h.1) (hc1 : h.2 a = .inl (gC G 0, n1, .inl g)) (h1 : ¬ sp < 0) (h2 : ¬ dp < 0) (h3 : ¬ n < 0) (h4 : sp.toNatClampNeg + n.toNatClampNeg ≤ n0) (h5 : dp.toNatClampNeg + n.toNatClampNeg ≤ n1) (hcat : (st.map fun v => v.category).sum ≤ 8) (kk : AX G d Y (pc + 3) ls st (h.1, va_up h.2 a (.inl (gC G 0, n1, .inl (va_cpy f g sp.toNatClampNeg dp.toNatClampNeg n.toNatClampNeg)))) mc ms Post) : AX G d Y pc ls (.int n :: .int dp :: .ref a :: .int sp :: .ref a0 :: st) h mc ms Post := by
  intro p e R s m args below meth c Q H locs cells slots jl ac hp hS hlr hce hs kr T hT X
  have e0 : H[a0]? = some (vp_cell (gC G 0) (n0, .inl f)) := (hp.one hB0 hn0 hc0) 0 _ rfl
  have e1 : H[a]? = some (vp_cell (gC G 0) (n1, .inl g)) := (hp.one hB hn1 hc1) 0 _ rfl
  obtain ⟨-, k0, hk0, cm0, hkk0⟩ := (ac.gs.1.2 0 _ rfl).1 n0 (fun j => .int (f j))
  obtain ⟨-, k1, hk1, cm1, hkk1⟩ := (ac.gs.1.2 0 _ rfl).1 n1 (fun j => .int (g j))
  have hroom := ac.room
  have hfw := nfw_copy
  have lt : ∀ {b N : Nat} {w : Nat → Int32}, H[b]? = some (vp_cell (gC G 0) (N, .inl w)) → b < H.size := fun q => (Array.getElem?_eq_some_iff.mp q).1
  obtain ⟨vm', X', step⟩ := X.arraycopy ac.1 ac.own (ac.hts _ hl) (ac.hts _ cw_native) (ac.hts _ cw_static) (ac.hts _ cw_sys) (src := a0) (dst := a) (cs := vp_cell (gC G 0) (n0, .inl f)) (cd := vp_cell (gC G 0) (n1, .inl g)) (srcPos := sp) (destPos := dp) (n := n) (by rw [hT]; exact e0) (by rw [hT]; exact e1)
    (fun _ q => by cases q) (fun _ q => by cases q) (fun q => by cases q) (fun q => by cases q) hk0 hk1 hkk0 hkk1 rfl h1 h2 h3
    (by rw [nn_int h1, nn_int h3]; show ¬ _ > ((arrV (gC G 0) n0 (fun j => .int (f j))).slots.size : Int); rw [arrV_size]; omega)
    (by rw [nn_int h2, nn_int h3]; show ¬ _ > ((arrV (gC G 0) n1 (fun j => .int (g j))).slots.size : Int); rw [arrV_size]; omega)
    (fun vm₁ _ i hi => by
      have e9 : (vp_cell (gC G 0) (n0, .inl f)).slots.getD (sp.toNatClampNeg + i) .null = .int (f (sp.toNatClampNeg + i)) := by
        show (arrV (gC G 0) n0 (fun j => .int (f j))).slots.getD _ _ = _
        rw [Array.getD_eq_getD_getElem?, arrV_read _ _ (by omega)]
        rfl
      rw [e9]
      exact ⟨rfl, trivial⟩)
    (g := F0 m pc jl (.int n :: .int dp :: .ref a :: .int sp :: .ref a0 :: st)) rfl (by rw [ac.2.2.2.1]; exact hlr.1) (rest := st) rfl (by rw [ac.2.1]; exact hd) (by omega) (by show 2 * 0 + _ + _ ≤ _; omega)
  have ec : copied (vp_cell (gC G 0) (n0, .inl f)) (vp_cell (gC G 0) (n1, .inl g)) sp dp n = vp_cell (gC G 0) (n1, .inl (va_cpy f g sp.toNatClampNeg dp.toNatClampNeg n.toNatClampNeg)) := va_copied (fun z => .int z) _ _ f g h4
  rw [ec] at X' step
  have hla := lt e1
  generalize hcell : vp_cell (gC G 0) (n1, .inl (va_cpy f g sp.toNatClampNeg dp.toNatClampNeg n.toNatClampNeg)) = cell9 at X' step
  have hheap : ((T.setVm vm').setCell a cell9).heap = H.setIfInBounds a cell9 := by rw [← hT]; rfl
  have oq : ∀ q : Nat, q ≠ a → (H.setIfInBounds a cell9)[q]? = H[q]? := fun q hq => by simp [Array.getElem?_setIfInBounds, Ne.symm hq]
  have hz : (H.setIfInBounds a cell9).size = H.size := by simp
  obtain ⟨t, a1, b1⟩ := kk p e R s m args below meth c Q (H.setIfInBounds a cell9) _ cells slots jl ac (hp.set (by show (H.setIfInBounds a cell9)[a]? = some _; rw [hcell]; simp [Array.getElem?_setIfInBounds, hla]) hz oq) ⟨by rw [hz]; exact hS.1, fun q g1 g2 => by
      rw [oq q (fun e9 => g2 (by rw [e9]; exact hB))]
      exact hS.2.1 q g1 g2, fun q hq => by
      rcases List.mem_append.mp hq with hq | hq
      · exact hS.2.2 q hq
      · obtain ⟨z, -, hz9⟩ := List.mem_map.mp hq
        rw [← hz9]
        exact hB⟩ hlr hce hs kr _ hheap X'
  exact ⟨t, step t a1, b1⟩
/-- super.m(..) of a method that the class above inherits from the one above it -/
def cLLW (own : String) (index : Nat) (B : String) (Y' : Yt) (n : Nat) : Prop := YC Y' n ∧ Y'.1.name ≠ "<init>" ∧ Cond.methodLink own index ⟨B, Y'.1.name, Y'.1.desc⟩ ∈ tb ∧ Cond.sameMethod B Y'.1.cls Y'.1.name Y'.1.desc ∈ tb ∧ Cond.superclass own B ∈ tb ∧ Cond.superclass B Y'.1.cls ∈ tb ∧ Cond.instanceMethod Y'.1 ∈ tb ∧ Cond.initialized Y'.1.cls ∈ tb
theorem sub_one {vm : Vm} {c p : ClassId} {k : Class} (hk : vm.classes[c]? = some k) (hs : k.super = some p) : vm.isSubclass c p = true := by
  have hlt : c < vm.classes.size := (Array.getElem?_eq_some_iff.mp hk).1
  unfold Vm.isSubclass
  obtain ⟨z, hz⟩ : ∃ z, vm.classes.size = z + 1 := ⟨vm.classes.size - 1, (Nat.succ_pred_eq_of_pos (Nat.lt_of_le_of_lt (Nat.zero_le _) hlt)).symm⟩
  rw [hz]
  simp [Vm.isSubclassAux, hk, hs]
theorem ax_callW {d1 a ci n index : Nat} {fs av st0 : List Value} {B C : String} {T : u_T} {N mc1 ms1 : Nat} {Y' : Yt} {Post1 : Option Value → Ht → Prop} (hd : decode Y.2.1 pc = .ok (.invokespecial index, 3)) (hl : cLLW Y.1.cls index B Y' n) (hB : gB G ≤ a) (hna : a < h.1) (hc : h.2 a = .inr (ci, fs)) (hcl : vwCl[ci]? = some (C, T, N)) (hn : av.length = n) (hst : st0 = av.reverse ++ .ref a :: st) (hdd : d1 + 1 ≤ d) (hcat : (st.map fun v => v.category).sum ≤ 8) (hC : CX G d1 Y' (.ref a :: av) h mc1 ms1 Post1) (kk : ∀ r h', Post1 r h' → AX G d Y (pc + 3) ls (r.toList ++ st) h' mc ms Post) : AX G d Y pc ls st0 h (mc1 + mc) (ms1 + ms) Post := by
  intro p e R s m args below meth c Q H locs cells slots jl ac hp hS hlr hce hs kr
  obtain ⟨hY, l0, l1, l2, l3, l4, l5, l6⟩ := hl
  have hroom := cx_room (mc1 := mc1) (ms1 := ms1) ac hdd hY
  refine w_run (Post1 := Post1) (rest := st) (av := (Value.ref a :: av).toArray) (mc1 := mc1) (ms1 := ms1) ?_ hS (fun r h' H1 locs1 q1 q2 q3 => ?_)
  · obtain ⟨cellB, hcB, hoB, hclB⟩ := ax_recv ac hp hB hna hc hcl
    obtain ⟨mk, methM, hnamed, hmethM, hstM, habM⟩ := Cond.instanceMethod_spec (ac.hts _ l5)
    obtain ⟨methM', cM, hmethM', -, -, -, -, -, -, hsigM⟩ := Cond.code_spec hnamed (ac.hts _ hY.1)
    cases hmethM.symm.trans hmethM'
    obtain ⟨ps, dk, kp, hps, hdk, hkp, hsuper, -, -, hnid⟩ := Cond.superclass_spec ac.own (ac.hts _ l3)
    obtain ⟨ps2, dk2, kp2, hps2, hdk2, hkp2, hsuper2, -, -, -⟩ := Cond.superclass_spec hps (ac.hts _ l4)
    have hpm : ps2 = mk.cls := Option.some.inj (hps2.symm.trans (findClass_of_methodNamed hnamed))
    have hsub : s.vm.isSubclass ps mk.cls = true := by rw [← hpm]; exact sub_one hdk2 hsuper2
    obtain ⟨kB, hkB, -⟩ := Vm.findClass_spec hclB
    have hK : Back (gL G) R p e below s args Y'.1 3 8 (PreOf R mc1 ms1 (va_Pc (.ref a :: av) (fun U => GS G U ∧ HP G h U.heap))) (PostOf (cQ G Post1) mc1 ms1 (gO G)) := back_of (bytes := Y'.2.1) (maxL := Y'.2.2.1) (ret := Y'.2.2.2) hC cx_blind rfl rfl hroom.1 hroom.2 (pay_in ac.hts (yW_good hY.1)) (by unfold yW; exact List.mem_cons_self) (fun a' U hW => word_at hW (Or.inl (by first | rfl | simp [Cond.onTables, Cond.keeps, Cond.steady])) (ac.hts _ l6))
    intro T hT X
    obtain ⟨vm₁, X₁, hstep₁⟩ := X.invokespecialUp ac.1 ac.own (x := ⟨B, Y'.1.name, Y'.1.desc⟩) (ac.hts _ l1) (ac.hts _ l2) hnamed hmethM hstM habM l0 hdk hnid hps hsuper hsub (a := a) (cell := cellB) (by rw [hT]; exact hcB)
      (fun z q => by rw [q] at hoB; cases hoB) hkB (g := F0 m pc jl st0) rfl (argsL := av) (rest := st) (by
        have h2 := hY.2.1.2.2
        rw [hsigM] at h2
        rw [hn]
        exact (Option.some.inj h2).symm) hst (by rw [ac.2.1]; exact hd)
    obtain ⟨v, ⟨U', l2', c2, s2⟩, X', ⟨g', mk', t, L, e1, e2, hq, h1, hL, h2, h3⟩, hsteps⟩ := hK m meth c ⟨T.setVm vm₁, locs, cells, slots⟩ { F0 m pc jl st0 with stack := st } (.invokespecial index) mk (Value.ref a :: av).toArray X₁ rfl (hlr.1.trans ac.2.2.2.1.symm) (by rw [ac.2.1]; exact hd) (lv_room hcat) (X₁.named hnamed) ⟨(by show cells + mc1 ≤ R.cells; omega), (by show slots + ms1 ≤ R.slots; omega), cx_pre ac hp hS (T.setVm vm₁) hT X₁.warmed⟩
    dsimp only [Pt.U, Pt.locs, Pt.cells, Pt.slots] at X' e1 e2 h1 h2 h3 hsteps
    subst h1; subst h2; subst h3
    exact ⟨v, (T.setVm vm₁).calling g' mk' (Value.ref a :: av).toArray, t, U', L, hT, X', hL, e1, e2, hq, fun target q => hstep₁ _ (by rw [doInvoke_state]; exact hsteps.trans q)⟩
  · exact kk r h' q1 p e R s m args below meth c Q H1 locs1 _ _ jl ac q2 q3 hlr (by omega) (by omega) (fun r h' H' locs' cells' slots' pc' jl' hpo hp' hS' c1 c2 => kr r h' H' locs' cells' slots' pc' jl' hpo hp' hS' (by omega) (by omega))
end CRr
theorem lX4_7 : cLLW RX4 7 RX1 Y2_takes 1 := ⟨yc_X2_takes, by decide +kernel, (tb_2 221 rfl rfl), (tb_2 222 rfl rfl), (tb_2 184 rfl rfl), (tb_2 133 rfl rfl), (tb_2 207 rfl rfl), (tb_1 8 rfl rfl)⟩
theorem lX4_20 : cLLW RX4 20 RX1 Y2_brings 0 := ⟨yc_X2_brings, by decide +kernel, (tb_3 51 rfl rfl), (tb_3 52 rfl rfl), (tb_2 184 rfl rfl), (tb_2 133 rfl rfl), (tb_3 43 rfl rfl), (tb_1 8 rfl rfl)⟩
section CRp
variable {σ : Type} {G : Gt} {Pic : σ → Ht → Prop} {d : Nat} {Y : Yt} {pc : Nat} {ls : List (Option Value)} {st : List Value} {S : σ} {mc ms : Nat} {Post : Option Value → σ → Prop}
theorem gz_low {U : State} (h : GS G U) : va_Z RX11 "LOWER_PART" "[I" (.ref (gA G 0)) (gO G) U U.heap ∧ va_T .int (gA G 0) 6 (fun j => .int (cLow.getD j 0)) (gO G) U U.heap := h.2.2.2.2.2.2.2.2.1
theorem gz_high {U : State} (h : GS G U) : va_Z RX11 "HIGHER_PART" "[I" (.ref (gA G 1)) (gO G) U U.heap ∧ va_T .int (gA G 1) 6 (fun j => .int (cHigh.getD j 0)) (gO G) U U.heap := h.2.2.2.2.2.2.2.2.2.1
theorem gz_wt {U : State} (h : GS G U) : va_Z RX11 "DIGIT_WEIGHT" "[I" (.ref (gA G 2)) (gO G) U U.heap ∧ va_T .int (gA G 2) 5 (fun j => .int (cWeight.getD j 0)) (gO G) U U.heap := h.2.2.2.2.2.2.2.2.2.2.1
theorem px_low {index : Nat} (hd : decode Y.2.1 pc = .ok (.getstatic index, 3)) (hl : Cond.fieldLinkNest Y.1.cls index RX11 "LOWER_PART" "[I" RX11 ∈ nestF) (kk : PX G Pic d Y (pc + 3) ls (.ref (gA G 0) :: st) S mc ms Post) : PX G Pic d Y pc ls st S mc ms Post :=
  fun h hp => ax_getsN hd (fun U hU => (gz_low hU).1) hl (kk h hp)
theorem px_high {index : Nat} (hd : decode Y.2.1 pc = .ok (.getstatic index, 3)) (hl : Cond.fieldLinkNest Y.1.cls index RX11 "HIGHER_PART" "[I" RX11 ∈ nestF) (kk : PX G Pic d Y (pc + 3) ls (.ref (gA G 1) :: st) S mc ms Post) : PX G Pic d Y pc ls st S mc ms Post :=
  fun h hp => ax_getsN hd (fun U hU => (gz_high hU).1) hl (kk h hp)
theorem px_wt {index : Nat} (hd : decode Y.2.1 pc = .ok (.getstatic index, 3)) (hl : Cond.fieldLink Y.1.cls index RX11 "DIGIT_WEIGHT" "[I" ∈ tb) (kk : PX G Pic d Y (pc + 3) ls (.ref (gA G 2) :: st) S mc ms Post) : PX G Pic d Y pc ls st S mc ms Post :=
  fun h hp => ax_gets hd (fun U hU => (gz_wt hU).1) hl (kk h hp)
theorem px_lowL {i : Int32} {v : Int32} (n0 : Nat) (hd : decode Y.2.1 pc = .ok (.iaload, 1)) (hi : i = nI n0) (hlt : n0 < 6) (hv : cLow.getD n0 0 = v) (kk : PX G Pic d Y (pc + 1) ls (.int v :: st) S mc ms Post) : PX G Pic d Y pc ls (.int i :: .ref (gA G 0) :: st) S mc ms Post :=
  fun h hp => ax_cald hd (fun U hU => (gz_low hU).2) (by rw [hi]; exact vp_in_nI hlt (by decide)) (by show Value.int (cLow.getD _ 0) = .int v; rw [hi, nI_clamp (by omega), hv]) (kk h hp)
theorem px_highL {i : Int32} {v : Int32} (n0 : Nat) (hd : decode Y.2.1 pc = .ok (.iaload, 1)) (hi : i = nI n0) (hlt : n0 < 6) (hv : cHigh.getD n0 0 = v) (kk : PX G Pic d Y (pc + 1) ls (.int v :: st) S mc ms Post) : PX G Pic d Y pc ls (.int i :: .ref (gA G 1) :: st) S mc ms Post :=
  fun h hp => ax_cald hd (fun U hU => (gz_high hU).2) (by rw [hi]; exact vp_in_nI hlt (by decide)) (by show Value.int (cHigh.getD _ 0) = .int v; rw [hi, nI_clamp (by omega), hv]) (kk h hp)
theorem px_wtL {i : Int32} {v : Int32} (n0 : Nat) (hd : decode Y.2.1 pc = .ok (.iaload, 1)) (hi : i = nI n0) (hlt : n0 < 5) (hv : cWeight.getD n0 0 = v) (kk : PX G Pic d Y (pc + 1) ls (.int v :: st) S mc ms Post) : PX G Pic d Y pc ls (.int i :: .ref (gA G 2) :: st) S mc ms Post :=
  fun h hp => ax_cald hd (fun U hU => (gz_wt hU).2) (by rw [hi]; exact vp_in_nI hlt (by decide)) (by show Value.int (cWeight.getD _ 0) = .int v; rw [hi, nI_clamp (by omega), hv]) (kk h hp)
end CRp
section CRc
variable {G : Gt} {m : Nat → Prop} {M0 : Nat → va_E} {Q : Qt} {d : Nat} {Y : Yt} {pc : Nat} {ls : List (Option Value)} {st : List Value} {S : MS} {mc ms : Nat} {Post : Option Value → MS → Prop}
/-- arraycopy between two int rows of the class -/
theorem cx_copy {index k0 i0 k i r n0 n1 : Nat} {f : Nat → Int32} {x y z : Int32} (sp dp n : Nat) (hd : decode Y.2.1 pc = .ok (.invokestatic index, 3)) (hl : Cond.methodLink Y.1.cls index arraycopyName ∈ tb) (hd1 : 1 ≤ d) (he0 : cE G Q S k0 i0 = .inl (gC G 0, n0, .inl f)) (hl0 : i0 < lim Q k0) (he : ∀ S' : MS, S' 160 = S 160 → cE G Q S' k i = .inl (gC G 0, n1, .inl (S' r))) (hlm : i < lim Q k) (hr : r ≠ 7 ∧ r ≠ 160) (how : ∀ j, ow r j = (k, i)) (ex : x = nI sp) (ey : y = nI dp) (ez : z = nI n) (h4 : sp + n ≤ n0) (h5 : dp + n ≤ n1) (hb : n0 ≤ 100000 ∧ n1 ≤ 100000) (hcat : (st.map fun v => v.category).sum ≤ 8) (kk : PX G (CPic G m M0 Q) d Y (pc + 3) ls st (setA S r (va_cpy f (S r) sp dp n)) mc ms Post) : PX G (CPic G m M0 Q) d Y pc ls (.int z :: .int y :: .ref (Q.1 k i) :: .int x :: .ref (Q.1 k0 i0) :: st) S mc ms Post := by
  intro h hp
  subst ex; subst ey; subst ez
  have c1 : (nI sp).toNatClampNeg = sp := nI_clamp (by omega)
  have c2 : (nI dp).toNatClampNeg = dp := nI_clamp (by omega)
  have c3 : (nI n).toNatClampNeg = n := nI_clamp (by omega)
  refine ax_copy hd hl hd1 (hp.1 k0 i0 hl0).1 (hp.1 k0 i0 hl0).2.1 ((hp.2.2.1 k0 i0 hl0).trans he0) (hp.1 k i hlm).1 (hp.1 k i hlm).2.1 ((hp.2.2.1 k i hlm).trans (he S rfl)) (nI_nneg (by omega)) (nI_nneg (by omega)) (nI_nneg (by omega)) (by rw [c1, c3]; exact h4) (by rw [c2, c3]; exact h5) hcat ?_
  rw [c1, c2, c3]
  refine kk _ (hp.upA hlm hr how (fun q hq => if_neg hq) ?_)
  rw [he _ (show setA S r _ 160 = S 160 from if_neg (Ne.symm hr.2))]
  show (.inl (gC G 0, n1, .inl (setA S r (va_cpy f (S r) sp dp n) r)) : va_E) = _
  rw [show setA S r (va_cpy f (S r) sp dp n) r = va_cpy f (S r) sp dp n from if_pos rfl]
end CRc
