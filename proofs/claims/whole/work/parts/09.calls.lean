/-! THE CALCULUS: a method's contract, calls -/
def cQ (G : Gt) (Post : Option Value → Ht → Prop) : Array Value → State → Outcome → State → Prop := fun _ st o t => (∃ (r : Option Value) (h' : Ht), o = .returned r ∧ Post r h' ∧ HP G h' t.heap) ∧ va_F (gO G) st t
def cRm (d mc ms : Nat) : Room := { frames := d, cells := mc, slots := ms, locals := 64 * d }
/-- method Y, called with av over the heap h, comes back with Post; it makes at most mc cells of ms slots, and d frames stand at most -/
def CX (G : Gt) (d : Nat) (Y : Yt) (av : List Value) (h : Ht) (mc ms : Nat) (Post : Option Value → Ht → Prop) : Prop :=
  Met (gL G) Y.1 (yW Y) (cRm d mc ms) (va_Pc av (fun U => GS G U ∧ HP G h U.heap)) (cQ G Post) mc ms (gO G)
def sfS (x : Slot) : Option Value := match x with | .val v => some v | _ => none
theorem sfS_val {x : Slot} {v : Value} (h : sfS x = some v) : x = .val v := by
  cases x with
  | val w => simp only [sfS, Option.some.injEq] at h; rw [h]
  | _ => simp [sfS] at h
/-- the locals at the entry -/
def enL (av : List Value) (n : Nat) : List (Option Value) := (lg_sl av ++ List.replicate (n - (lg_sl av).length) Slot.unset).map sfS
theorem LR.entry {av : List Value} {n : Nat} (h : (lg_sl av).length ≤ n) : LR n (enL av n) ((lg_sl av ++ List.replicate (n - (lg_sl av).length) Slot.unset).toArray) := by
  have h1 := lv_entry av h
  refine ⟨h1.1, h1.2.1, fun i v hi => ?_⟩
  unfold enL at hi
  rw [List.getElem?_map] at hi
  cases hx : (lg_sl av ++ List.replicate (n - (lg_sl av).length) Slot.unset)[i]? with
  | none => rw [hx] at hi; cases hi
  | some x =>
    rw [hx] at hi
    rw [List.getElem?_toArray, hx, sfS_val (Option.some.inj hi)]
theorem cx_of {G : Gt} {d : Nat} {Y : Yt} {av : List Value} {ls : List (Option Value)} {h : Ht} {mc ms : Nat} {Post : Option Value → Ht → Prop} (hy : plainName Y.1.cls = true) (hls : enL av Y.2.2.1 = ls) (hlen : (lg_sl av).length ≤ Y.2.2.1) (k : AX G d Y 0 ls [] h mc ms Post) : CX G d Y av h mc ms Post := by
  refine Met.ofW (cc := Y.2.1) (maxL := Y.2.2.1) (ret := Y.2.2.2) hy rfl ?_
  intro p e s m args below meth c s₁ B hml hv
  obtain ⟨rfl, hgs, hp⟩ := hv
  have hts := atoms_spec (ws := yW Y) B.pre
  have hown : s.vm.findClass Y.1.cls = some m.cls := findClass_of_methodNamed B.named
  have hlk := B.notSynchronized
  rw [lg_entry_eq]
  subst hls
  refine k p e _ s m _ below meth c _ s.heap [] 0 0 _ ⟨B.exec, B.bytes, B.returns, hml, hown, fun w hw => hts w (List.mem_cons_of_mem _ hw), hlk, (name_of_methodNamed B.named B.method).1, hgs, Nat.le_refl _, Nat.le_refl _⟩ hp va_S.rf (LR.entry hlen) (by rw [Nat.zero_add]; exact Nat.le_refl _) (by rw [Nat.zero_add]; exact Nat.le_refl _) ?_
  intro r h' H' locs' cells' slots' pc' jl' hpo hp' hS' hc1 hc2 hri
  rw [Nat.zero_add] at hc1 hc2
  refine W.widen hc1 hc2 ?_
  rcases hri with ⟨e1, e2, e3⟩ | ⟨ty, v, e1, e2, e3, e4⟩ | ⟨rt, v, e1, e2, e3, e4, e5⟩
  · subst e2
    exact W.vret B.exec B.bytes (B.returns.trans e1) (fun t ht hW => ⟨⟨none, h', rfl, hpo, by rw [ht]; exact hp'⟩, hS'.F ht⟩) hS'.2.2 e3 hlk
  · subst e2
    exact W.zret B.exec B.bytes (B.returns.trans e1) e3 (fun t ht hW => ⟨⟨some (.int v), h', rfl, hpo, by rw [ht]; exact hp'⟩, hS'.F ht⟩) hS'.2.2 e4 hlk
  · subst e4
    exact W.aret B.exec B.bytes (B.returns.trans e1) e2 e3 (fun t ht hW => ⟨⟨some v, h', rfl, hpo, by rw [ht]; exact hp'⟩, hS'.F ht⟩) hS'.2.2 e5 hlk
section AXc
variable {p : Program} {e : Env} {R : Room} {s : State} {m : MethodId} {args : Array Value} {below : List Frame} {meth : Method} {c : Code} {H : Heap} {locs : List Loc} {cells slots : Nat} {Q : State → Prop}
theorem w_run {G : Gt} {mc1 ms1 pc : Nat} {jl : Array Slot} {st0 rest : List Value} {av : Array Value} {Post1 : Option Value → Ht → Prop} (hr : va_Run p (gL G) e R s m args below meth c H locs cells slots mc1 ms1 (F0 m pc jl st0) rest (cQ G Post1 av) (gO G)) (hS : va_S (gO G) s.heap H locs)
    (kk : ∀ (r : Option Value) (h' : Ht) (H1 : Heap) (locs1 : List Loc), Post1 r h' → HP G h' H1 → va_S (gO G) s.heap H1 locs1 → W p (gL G) e R s m args below meth c H1 locs1 (cells + mc1) (slots + ms1) Q (F0 m (pc + 3) jl (r.toList ++ rest))) : W p (gL G) e R s m args below meth c H locs cells slots Q (F0 m pc jl st0) := by
  intro T hT X
  obtain ⟨v, st₀, t, T', L, h0, X', hL, e1, e2, ⟨⟨r, h', hv, hpo, hb⟩, hz, hk⟩, st⟩ := hr T hT X
  cases hv
  rw [h0] at hz hk
  obtain ⟨t2, a1, b1⟩ := kk v h' T'.heap (locs ++ L) hpo (by rw [e1]; exact hb) ⟨Nat.le_trans hS.1 (by rw [e1]; exact hz), fun q h1 h2 => by rw [e1, hk q (Nat.lt_of_lt_of_le h1 hS.1) h2]; exact hS.2.1 q h1 h2, fun q hq => by
    rcases List.mem_append.mp hq with h | h
    · exact hS.2.2 q h
    · exact hL q h⟩ T' rfl X'
  exact ⟨t2, st t2 a1, b1⟩
end AXc
theorem cx_blind {G : Gt} {av : List Value} {h : Ht} : FrameBlind (va_Pc av (fun U => GS G U ∧ HP G h U.heap)) := fun a U g mk q => ⟨q.1, q.2.1.calling, q.2.2⟩
theorem cx_pre {G : Gt} {d : Nat} {Y : Yt} {p : Program} {R : Room} {s : State} {m : MethodId} {args : Array Value} {meth : Method} {c : Code} {H : Heap} {locs : List Loc} {h : Ht} {av : List Value} (ac : AC G d Y p R s m args meth c) (hp : HP G h H) (hS : va_S (gO G) s.heap H locs) : ∀ U : State, U.heap = H → s.WarmedH U.vm → va_Pc av (fun U => GS G U ∧ HP G h U.heap) av.toArray U := fun U hU hW => ⟨rfl, ac.gs.go hW hU hS, by rw [hU]; exact hp⟩
/-- what every call of Y' asks: its code is in the tables, its names are plain, its n parameters -/
def YC (Y' : Yt) (n : Nat) : Prop := Cond.code Y'.1 Y'.2.1 Y'.2.2.1 Y'.2.2.2 ∈ tb ∧ (Y'.1.cls ≠ "java/lang/invoke/MethodHandle" ∧ Y'.1.cls ≠ "java/lang/invoke/VarHandle" ∧ (parseMethodDescriptor Y'.1.desc).map (fun d => d.parameters.length) = some n) ∧ Y'.2.2.1 ≤ 40
/-- entry 'index' of 'own' is the static method Y' -/
def cLLS (own : String) (index : Nat) (Y' : Yt) (n : Nat) : Prop := YC Y' n ∧ Cond.methodLink own index Y'.1 ∈ tb ∧ Cond.static Y'.1 ∈ tb ∧ Cond.initialized Y'.1.cls ∈ tb
/-- the same, of a nest mate -/
def cLLN (own : String) (index : Nat) (Y' : Yt) (n : Nat) : Prop := YC Y' n ∧ Cond.methodLinkNest own index Y'.1 RX11 ∈ nestM ∧ Cond.static Y'.1 ∈ tb ∧ Cond.initialized Y'.1.cls ∈ tb
/-- entry 'index' of 'own' is the method Y' of objects of the class C itself -/
def cLLV (own : String) (index : Nat) (Y' : Yt) (n : Nat) : Prop := YC Y' n ∧ Cond.methodLink own index Y'.1 ∈ tb ∧ Cond.instanceMethod Y'.1 ∈ tb ∧ Cond.selects Y'.1.cls Y'.1 Y'.1 ∈ tb ∧ Cond.initialized Y'.1.cls ∈ tb
/-- entry 'index' of 'own' is a constructor -/
def cLLI (own : String) (index : Nat) (Y' : Yt) (n : Nat) : Prop := YC Y' n ∧ Y'.2.2.2 = none ∧ Y'.1.name = "<init>" ∧ Cond.methodLink own index Y'.1 ∈ tb ∧ Cond.instanceMethod Y'.1 ∈ tb ∧ Cond.initialized Y'.1.cls ∈ tb
def cLLJ (own : String) (index : Nat) (Y' : Yt) (n : Nat) : Prop := YC Y' n ∧ Y'.2.2.2 = none ∧ Y'.1.name = "<init>" ∧ Cond.methodLinkNest own index Y'.1 RX11 ∈ nestM ∧ Cond.instanceMethod Y'.1 ∈ tb ∧ Cond.initialized Y'.1.cls ∈ tb
/-- entry 'index' of 'own' is the method Y' of a class above -/
def cLLU (own : String) (index : Nat) (Y' : Yt) (n : Nat) : Prop := YC Y' n ∧ Y'.1.name ≠ "<init>" ∧ Cond.methodLink own index Y'.1 ∈ tb ∧ Cond.sameMethod Y'.1.cls Y'.1.cls Y'.1.name Y'.1.desc ∈ tb ∧ Cond.superclass own Y'.1.cls ∈ tb ∧ Cond.instanceMethod Y'.1 ∈ tb ∧ Cond.initialized Y'.1.cls ∈ tb
/-- entry 'index' of 'own' is the method x; an object of the class C answers it by Y' -/
def cLLO (own C : String) (index : Nat) (x : MethodName) (Y' : Yt) (n : Nat) : Prop := YC Y' n ∧ Cond.methodLink own index x ∈ tb ∧ Cond.sameMethod x.cls x.cls x.name x.desc ∈ tb ∧ Cond.instanceMethod x ∈ tb ∧ Cond.selects C x Y'.1 ∈ tb ∧ Cond.instanceMethod Y'.1 ∈ tb ∧ Cond.initialized Y'.1.cls ∈ tb ∧ (∃ b0 m0 r0, Cond.code x b0 m0 r0 ∈ tb) ∧ x.cls ≠ "java/lang/invoke/MethodHandle" ∧ x.cls ≠ "java/lang/invoke/VarHandle" ∧ (parseMethodDescriptor x.desc).map (fun d => d.parameters.length) = some n
section AXk
variable {G : Gt} {d d1 : Nat} {Y Y' : Yt} {pc index n : Nat} {ls : List (Option Value)} {st st0 av : List Value} {h : Ht} {mc ms mc1 ms1 : Nat} {Post Post1 : Option Value → Ht → Prop}
theorem cx_room {p : Program} {R : Room} {s : State} {m : MethodId} {args : Array Value} {meth : Method} {c : Code} (ac : AC G d Y p R s m args meth c) (hdd : d1 + 1 ≤ d) (hc : YC Y' n) : (cRm d1 mc1 ms1).frames + 1 ≤ R.frames ∧ 8 + (Y'.2.2.1 + 11) + (cRm d1 mc1 ms1).locals ≤ R.locals := by
  have h1 := ac.room
  have h2 := hc.2.2
  show d1 + 1 ≤ R.frames ∧ 8 + (Y'.2.2.1 + 11) + 64 * d1 ≤ R.locals
  omega
theorem ax_callS (hd : decode Y.2.1 pc = .ok (.invokestatic index, 3)) (hl : cLLS Y.1.cls index Y' n) (hn : av.length = n) (hst : st0 = av.reverse ++ st) (hdd : d1 + 1 ≤ d) (hcat : (st.map fun v => v.category).sum ≤ 8) (hC : CX G d1 Y' av h mc1 ms1 Post1) (kk : ∀ r h', Post1 r h' → AX G d Y (pc + 3) ls (r.toList ++ st) h' mc ms Post) : AX G d Y pc ls st0 h (mc1 + mc) (ms1 + ms) Post := by
  intro p e R s m args below meth c Q H locs cells slots jl ac hp hS hlr hce hs kr
  obtain ⟨hY, l1, l2, l3⟩ := hl
  refine w_run (va_runS (As := av) (rest := st) (nL := Y.2.2.1) (Ts := tb) ⟨ac.1, ac.2.1, ac.2.2.2.1, ac.own, ac.hts⟩ hC ⟨callB_of n ac.hts (yW_good hY.1) rfl rfl rfl (ac.hts _ l3) (ac.hts _ l1) hY.2.1 (cx_room ac hdd hY), ac.hts _ l2⟩ ⟨cx_blind, cx_pre ac hp hS⟩ rfl hn hlr.1 hst (lv_room hcat) hd ⟨by omega, by omega⟩) hS (fun r h' H1 locs1 q1 q2 q3 => ?_)
  exact kk r h' q1 p e R s m args below meth c Q H1 locs1 _ _ jl ac q2 q3 hlr (by omega) (by omega) (fun r h' H' locs' cells' slots' pc' jl' hpo hp' hS' c1 c2 => kr r h' H' locs' cells' slots' pc' jl' hpo hp' hS' (by omega) (by omega))
theorem ax_callSN (hd : decode Y.2.1 pc = .ok (.invokestatic index, 3)) (hl : cLLN Y.1.cls index Y' n) (hn : av.length = n) (hst : st0 = av.reverse ++ st) (hdd : d1 + 1 ≤ d) (hcat : (st.map fun v => v.category).sum ≤ 8) (hC : CX G d1 Y' av h mc1 ms1 Post1) (kk : ∀ r h', Post1 r h' → AX G d Y (pc + 3) ls (r.toList ++ st) h' mc ms Post) : AX G d Y pc ls st0 h (mc1 + mc) (ms1 + ms) Post := by
  intro p e R s m args below meth c Q H locs cells slots jl ac hp hS hlr hce hs kr
  obtain ⟨hY, l1, l2, l3⟩ := hl
  refine w_run (va_runSN (As := av) (rest := st) (nL := Y.2.2.1) (Ts := tb) (host := RX11) ⟨ac.1, ac.2.1, ac.2.2.2.1, ac.own, ac.hts⟩ hC ⟨va_cnB n ac.hts (yW_good hY.1) rfl rfl rfl (ac.gs.2.1 _ l1) (ac.hts _ l3) hY.2.1 (cx_room ac hdd hY), ac.hts _ l2, trivial⟩ ⟨cx_blind, cx_pre ac hp hS⟩ rfl hn hlr.1 hst (lv_room hcat) hd ⟨by omega, by omega⟩) hS (fun r h' H1 locs1 q1 q2 q3 => ?_)
  exact kk r h' q1 p e R s m args below meth c Q H1 locs1 _ _ jl ac q2 q3 hlr (by omega) (by omega) (fun r h' H' locs' cells' slots' pc' jl' hpo hp' hS' c1 c2 => kr r h' H' locs' cells' slots' pc' jl' hpo hp' hS' (by omega) (by omega))
theorem ax_recv {p : Program} {R : Room} {s : State} {m : MethodId} {args : Array Value} {meth : Method} {c : Code} {H : Heap} {a ci : Nat} {fs : List Value} {C : String} {T : u_T} {N : Nat} (ac : AC G d Y p R s m args meth c) (hp : HP G h H) (hB : gB G ≤ a) (hn : a < h.1) (hc : h.2 a = .inr (ci, fs)) (hcl : vwCl[ci]? = some (C, T, N)) : ∃ cell : Cell, H[a]? = some cell ∧ cell.vm.isStatics = false ∧ s.vm.findClass C = some cell.cls :=
  va_recv (q := (C, T, N)) ac.gs.1 (hp.one hB hn hc) hcl (q0 := 0) rfl
theorem ax_callV {a ci : Nat} {fs : List Value} {T : u_T} {N : Nat} (hd : decode Y.2.1 pc = .ok (.invokevirtual index, 3)) (hl : cLLV Y.1.cls index Y' n) (hB : gB G ≤ a) (hna : a < h.1) (hc : h.2 a = .inr (ci, fs)) (hcl : vwCl[ci]? = some (Y'.1.cls, T, N)) (hn : av.length = n) (hst : st0 = av.reverse ++ .ref a :: st) (hdd : d1 + 1 ≤ d) (hcat : (st.map fun v => v.category).sum ≤ 8) (hC : CX G d1 Y' (.ref a :: av) h mc1 ms1 Post1) (kk : ∀ r h', Post1 r h' → AX G d Y (pc + 3) ls (r.toList ++ st) h' mc ms Post) : AX G d Y pc ls st0 h (mc1 + mc) (ms1 + ms) Post := by
  intro p e R s m args below meth c Q H locs cells slots jl ac hp hS hlr hce hs kr
  obtain ⟨hY, l1, l2, l3, l4⟩ := hl
  refine w_run (va_runV (C := Y'.1.cls) (As := av) (rest := st) (nL := Y.2.2.1) (Ts := tb) ⟨ac.1, ac.2.1, ac.2.2.2.1, ac.own, ac.hts⟩ hC ⟨callB_of n ac.hts (yW_good hY.1) rfl rfl rfl (ac.hts _ l4) (ac.hts _ l1) hY.2.1 (cx_room ac hdd hY), ac.hts _ l2, ac.hts _ l3⟩ ⟨cx_blind, ax_recv ac hp hB hna hc hcl, cx_pre ac hp hS⟩ rfl hn hlr.1 hst (lv_room hcat) hd ⟨by omega, by omega⟩) hS (fun r h' H1 locs1 q1 q2 q3 => ?_)
  exact kk r h' q1 p e R s m args below meth c Q H1 locs1 _ _ jl ac q2 q3 hlr (by omega) (by omega) (fun r h' H' locs' cells' slots' pc' jl' hpo hp' hS' c1 c2 => kr r h' H' locs' cells' slots' pc' jl' hpo hp' hS' (by omega) (by omega))
theorem ax_callO {a ci : Nat} {fs : List Value} {x : MethodName} {C : String} {T : u_T} {N : Nat} (hd : decode Y.2.1 pc = .ok (.invokevirtual index, 3)) (hl : cLLO Y.1.cls C index x Y' n) (hB : gB G ≤ a) (hna : a < h.1) (hc : h.2 a = .inr (ci, fs)) (hcl : vwCl[ci]? = some (C, T, N)) (hn : av.length = n) (hst : st0 = av.reverse ++ .ref a :: st) (hdd : d1 + 1 ≤ d) (hcat : (st.map fun v => v.category).sum ≤ 8) (hC : CX G d1 Y' (.ref a :: av) h mc1 ms1 Post1) (kk : ∀ r h', Post1 r h' → AX G d Y (pc + 3) ls (r.toList ++ st) h' mc ms Post) : AX G d Y pc ls st0 h (mc1 + mc) (ms1 + ms) Post := by
  intro p e R s m args below meth c Q H locs cells slots jl ac hp hS hlr hce hs kr
  obtain ⟨hY, l1, l2, l3, l4, l5, l6, ⟨b0, m0, r0, l7⟩, l8⟩ := hl
  have hgood : GoodIn tb (va_wsO Y.1.cls index C x.cls x Y'.1 (yW Y')) := by
    intro w hw
    unfold va_wsO at hw
    rcases List.mem_append.mp hw with hw | hw
    · simp only [List.mem_cons, List.not_mem_nil, or_false] at hw
      rcases hw with rfl | rfl | rfl | rfl | rfl | rfl
      · exact ⟨l1, good_of_word (tb_good l1)⟩
      · exact ⟨l2, good_of_word (tb_good l2)⟩
      · exact ⟨l3, good_of_word (tb_good l3)⟩
      · exact ⟨l4, good_of_word (tb_good l4)⟩
      · exact ⟨l5, good_of_word (tb_good l5)⟩
      · exact ⟨l6, good_of_word (tb_good l6)⟩
    · exact yW_good hY.1 w hw
  refine w_run (va_runU (C := C) (As := av) (rest := st) (nL := Y.2.2.1) (Ts := tb) ⟨ac.1, ac.2.1, ac.2.2.2.1, ac.own, ac.hts⟩ hC (va_cwO n ac.hts hgood rfl rfl rfl (b0 := b0) (m0 := m0) (r0 := r0) l7 l8 (cx_room ac hdd hY)) ⟨cx_blind, ax_recv ac hp hB hna hc hcl, cx_pre ac hp hS⟩ rfl hn hlr.1 hst (lv_room hcat) hd ⟨by omega, by omega⟩) hS (fun r h' H1 locs1 q1 q2 q3 => ?_)
  exact kk r h' q1 p e R s m args below meth c Q H1 locs1 _ _ jl ac q2 q3 hlr (by omega) (by omega) (fun r h' H' locs' cells' slots' pc' jl' hpo hp' hS' c1 c2 => kr r h' H' locs' cells' slots' pc' jl' hpo hp' hS' (by omega) (by omega))
theorem ax_callU {a ci : Nat} {fs : List Value} {C : String} {T : u_T} {N : Nat} (hd : decode Y.2.1 pc = .ok (.invokespecial index, 3)) (hl : cLLU Y.1.cls index Y' n) (hB : gB G ≤ a) (hna : a < h.1) (hc : h.2 a = .inr (ci, fs)) (hcl : vwCl[ci]? = some (C, T, N)) (hn : av.length = n) (hst : st0 = av.reverse ++ .ref a :: st) (hdd : d1 + 1 ≤ d) (hcat : (st.map fun v => v.category).sum ≤ 8) (hC : CX G d1 Y' (.ref a :: av) h mc1 ms1 Post1) (kk : ∀ r h', Post1 r h' → AX G d Y (pc + 3) ls (r.toList ++ st) h' mc ms Post) : AX G d Y pc ls st0 h (mc1 + mc) (ms1 + ms) Post := by
  intro p e R s m args below meth c Q H locs cells slots jl ac hp hS hlr hce hs kr
  obtain ⟨hY, l0, l1, l2, l3, l4, l5⟩ := hl
  have hgood : GoodIn tb (va_wsSU Y.1.cls index Y'.1 (yW Y')) := by
    intro w hw
    unfold va_wsSU at hw
    rcases List.mem_append.mp hw with hw | hw
    · simp only [List.mem_cons, List.not_mem_nil, or_false] at hw
      rcases hw with rfl | rfl | rfl | rfl | rfl
      · exact ⟨l1, good_of_word (tb_good l1)⟩
      · exact ⟨l2, good_of_word (tb_good l2)⟩
      · exact ⟨l3, good_of_word (tb_good l3)⟩
      · exact ⟨l4, good_of_word (tb_good l4)⟩
      · exact ⟨l5, good_of_word (tb_good l5)⟩
    · exact yW_good hY.1 w hw
  refine w_run (va_runSU (C := C) (As := av) (rest := st) (nL := Y.2.2.1) (Ts := tb) (ac.gs.1.1 ci _ hcl).2 ⟨ac.1, ac.2.1, ac.2.2.2.1, ac.own, ac.hts⟩ hC (va_cwSU n ac.hts hgood rfl rfl rfl ⟨l0, hY.2.1.2.2⟩ (cx_room ac hdd hY)) ⟨cx_blind, ax_recv ac hp hB hna hc hcl, cx_pre ac hp hS⟩ rfl hn hlr.1 hst (lv_room hcat) hd ⟨by omega, by omega⟩) hS (fun r h' H1 locs1 q1 q2 q3 => ?_)
  exact kk r h' q1 p e R s m args below meth c Q H1 locs1 _ _ jl ac q2 q3 hlr (by omega) (by omega) (fun r h' H' locs' cells' slots' pc' jl' hpo hp' hS' c1 c2 => kr r h' H' locs' cells' slots' pc' jl' hpo hp' hS' (by omega) (by omega))
theorem ax_callI {a : Nat} (hd : decode Y.2.1 pc = .ok (.invokespecial index, 3)) (hl : cLLI Y.1.cls index Y' n) (hn : av.length = n) (hst : st0 = av.reverse ++ .ref a :: st) (hdd : d1 + 1 ≤ d) (hcat : (st.map fun v => v.category).sum ≤ 8) (hC : CX G d1 Y' (.ref a :: av) h mc1 ms1 Post1) (kk : ∀ r h', Post1 r h' → AX G d Y (pc + 3) ls (r.toList ++ st) h' mc ms Post) : AX G d Y pc ls st0 h (mc1 + mc) (ms1 + ms) Post := by
  intro p e R s m args below meth c Q H locs cells slots jl ac hp hS hlr hce hs kr
  obtain ⟨hY, l0, l00, l1, l2, l3⟩ := hl
  refine w_run (va_runI (As := av) (rest := st) (nL := Y.2.2.1) (Ts := tb) ⟨ac.1, ac.2.1, ac.2.2.2.1, ac.own, ac.hts⟩ hC ⟨callB_of n ac.hts (yW_good hY.1) (by rw [← l0]; rfl) rfl rfl (ac.hts _ l3) (ac.hts _ l1) hY.2.1 (cx_room ac hdd hY), l00, ac.hts _ l2⟩ ⟨cx_blind, cx_pre ac hp hS⟩ rfl hn hlr.1 hst (lv_room hcat) hd ⟨by omega, by omega⟩) hS (fun r h' H1 locs1 q1 q2 q3 => ?_)
  exact kk r h' q1 p e R s m args below meth c Q H1 locs1 _ _ jl ac q2 q3 hlr (by omega) (by omega) (fun r h' H' locs' cells' slots' pc' jl' hpo hp' hS' c1 c2 => kr r h' H' locs' cells' slots' pc' jl' hpo hp' hS' (by omega) (by omega))
theorem ax_callJ {a : Nat} (hd : decode Y.2.1 pc = .ok (.invokespecial index, 3)) (hl : cLLJ Y.1.cls index Y' n) (hn : av.length = n) (hst : st0 = av.reverse ++ .ref a :: st) (hdd : d1 + 1 ≤ d) (hcat : (st.map fun v => v.category).sum ≤ 8) (hC : CX G d1 Y' (.ref a :: av) h mc1 ms1 Post1) (kk : ∀ r h', Post1 r h' → AX G d Y (pc + 3) ls (r.toList ++ st) h' mc ms Post) : AX G d Y pc ls st0 h (mc1 + mc) (ms1 + ms) Post := by
  intro p e R s m args below meth c Q H locs cells slots jl ac hp hS hlr hce hs kr
  obtain ⟨hY, l0, l00, l1, l2, l3⟩ := hl
  refine w_run (va_runIN (As := av) (rest := st) (nL := Y.2.2.1) (Ts := tb) (host := RX11) ⟨ac.1, ac.2.1, ac.2.2.2.1, ac.own, ac.hts⟩ hC ⟨va_cnB n ac.hts (yW_good hY.1) (by rw [← l0]; rfl) rfl rfl (ac.gs.2.1 _ l1) (ac.hts _ l3) hY.2.1 (cx_room ac hdd hY), l00, ac.hts _ l2⟩ ⟨cx_blind, cx_pre ac hp hS⟩ rfl hn hlr.1 hst (lv_room hcat) hd ⟨by omega, by omega⟩) hS (fun r h' H1 locs1 q1 q2 q3 => ?_)
  exact kk r h' q1 p e R s m args below meth c Q H1 locs1 _ _ jl ac q2 q3 hlr (by omega) (by omega) (fun r h' H' locs' cells' slots' pc' jl' hpo hp' hS' c1 c2 => kr r h' H' locs' cells' slots' pc' jl' hpo hp' hS' (by omega) (by omega))
end AXk
