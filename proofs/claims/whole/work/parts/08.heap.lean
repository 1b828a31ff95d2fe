/-! THE CALCULUS: fields, arrays, new cells -/
/-- a class of the table: its fields' words, types, names -/
def CO (ci : Nat) (C : String) (T : u_T) (N : Nat) (ty0 : Nat → FieldType) : Prop := vwCl[ci]? = some (C, T, N) ∧ (∀ w ∈ u_ws C T N, w ∈ tb) ∧ (∀ k, k < N → parseFieldDescriptor (T k).2.2.1 = some (ty0 k)) ∧ (∀ a, a < N → ∀ b, b < N → a ≠ b → (T a).2.1 ≠ (T b).2.1)
/-- entry 'index' of the class 'own' is field k of the class number ci -/
def GF (own : String) (index ci k : Nat) (ty : FieldType) (fin : Bool) : Prop := ∃ (C : String) (T : u_T) (N : Nat) (ty0 : Nat → FieldType) (ref : String), CO ci C T N ty0 ∧ k < N ∧ Cond.fieldLink own index ref (T k).2.1 (T k).2.2.1 ∈ tb ∧ ((T k).1 = ref ∨ Cond.sameField ref (T k).1 (T k).2.1 (T k).2.2.1 ∈ tb) ∧ (T k).2.2.2 = fin ∧ parseFieldDescriptor (T k).2.2.1 = some ty
def GI (own : String) (index ci k : Nat) (ty : FieldType) : Prop := ∃ (C : String) (T : u_T) (N : Nat) (ty0 : Nat → FieldType), CO ci C T N ty0 ∧ k < N ∧ Cond.fieldLink own index own (T k).2.1 (T k).2.2.1 ∈ tb ∧ (T k).1 = own ∧ (T k).2.2.2 = true ∧ parseFieldDescriptor (T k).2.2.1 = some ty
/-- entry 'index' of the class 'own' is the class number ci, whose new objects hold fs -/
def NW (own : String) (index ci : Nat) (fs : List Value) (N : Nat) : Prop := ∃ (C : String) (T : u_T) (ty0 : Nat → FieldType), CO ci C T N ty0 ∧ Cond.classLink own index C ∈ tb ∧ Cond.instantiable C N ∈ tb ∧ Cond.initialized C ∈ tb ∧ ∀ j, j < N → defaultValue (ty0 j) = vp_V fs j
theorem AC.own {G : Gt} {d : Nat} {Y : Yt} {p : Program} {R : Room} {s : State} {m : MethodId} {args : Array Value} {meth : Method} {c : Code} (ac : AC G d Y p R s m args meth c) : s.vm.findClass Y.1.cls = some m.cls := ac.2.2.2.2.1
theorem AC.hts {G : Gt} {d : Nat} {Y : Yt} {p : Program} {R : Room} {s : State} {m : MethodId} {args : Array Value} {meth : Method} {c : Code} (ac : AC G d Y p R s m args meth c) : ∀ w ∈ tb, w.before args s = true := ac.2.2.2.2.2.1
theorem AC.gs {G : Gt} {d : Nat} {Y : Yt} {p : Program} {R : Room} {s : State} {m : MethodId} {args : Array Value} {meth : Method} {c : Code} (ac : AC G d Y p R s m args meth c) : GS G s := ac.2.2.2.2.2.2.2.2.1
theorem AC.room {G : Gt} {d : Nat} {Y : Yt} {p : Program} {R : Room} {s : State} {m : MethodId} {args : Array Value} {meth : Method} {c : Code} (ac : AC G d Y p R s m args meth c) : d ≤ R.frames ∧ 64 * d ≤ R.locals := ac.2.2.2.2.2.2.2.2.2
theorem GF.same {args : Array Value} {s : State} {T : u_T} {k : Nat} {ref : String} (hts : ∀ w ∈ tb, w.before args s = true) (h : (T k).1 = ref ∨ Cond.sameField ref (T k).1 (T k).2.1 (T k).2.2.1 ∈ tb) : ∀ x, s.fieldFound? (T k).1 (T k).2.1 (T k).2.2.1 = some x → s.fieldFound? ref (T k).2.1 (T k).2.2.1 = some x := by
  rcases h with h | h
  · rw [← h]
    exact fun _ h9 => h9
  · exact fun x9 h9 => u_same (hts _ h) x9 h9
section AXh
variable {G : Gt} {d : Nat} {Y : Yt} {pc : Nat} {ls : List (Option Value)} {st : List Value} {h : Ht} {mc ms : Nat} {Post : Option Value → Ht → Prop}
theorem ax_get {index ci k a : Nat} {ty : FieldType} {fin : Bool} {fs : List Value} {v : Value} (hd : decode Y.2.1 pc = .ok (.getfield index, 3)) (hg : GF Y.1.cls index ci k ty fin) (hB : gB G ≤ a) (hn : a < h.1) (hc : h.2 a = .inr (ci, fs)) (hv : fs[k]? = some v) (kk : AX G d Y (pc + 3) ls (v :: st) h mc ms Post) : AX G d Y pc ls (.ref a :: st) h mc ms Post := by
  intro p e R s m args below meth c Q H locs cells slots jl ac hp hS hl hce hs kr
  obtain ⟨C, T, N, ty0, ref, ⟨h1, h2, h3, h4⟩, hk, hlink, hsame, -, -⟩ := hg
  exact va_get ac.1 ac.2.1 ac.hts h2 ac.own ac.gs.1 (hp.one hB hn hc) 0 rfl h1 k hk (ac.hts _ hlink) (GF.same ac.hts hsame) hv hd (kk p e R s m args below meth c Q H locs cells slots jl ac hp hS hl hce hs kr)
theorem ax_put {index ci k a : Nat} {ty : FieldType} {fs : List Value} {v : Value} (hd : decode Y.2.1 pc = .ok (.putfield index, 3)) (hg : GF Y.1.cls index ci k ty false) (hB : gB G ≤ a) (hn : a < h.1) (hc : h.2 a = .inr (ci, fs)) (hk0 : k < fs.length) (hnv : narrow ty v = v) (hfit : fits ty v = true) (kk : AX G d Y (pc + 3) ls st (h.1, va_up h.2 a (.inr (ci, fs.set k v))) mc ms Post) : AX G d Y pc ls (v :: .ref a :: st) h mc ms Post := by
  intro p e R s m args below meth c Q H locs cells slots jl ac hp hS hl hce hs kr
  obtain ⟨C, T, N, ty0, ref, ⟨h1, h2, h3, h4⟩, hk, hlink, hsame, hfin, hty⟩ := hg
  have hK := ac.gs.1
  have hap := va_apart (own := Y.1.cls) ac.hts h2 ty0 h3 h4 hK h1
  obtain ⟨r, h1', cell, q1, q2, q3, q4⟩ := hp.one hB hn hc 0 _ rfl
  have hr : r = (C, T, N) := Option.some.inj (h1'.symm.trans h1)
  subst hr
  obtain ⟨hSl, hfc, kC, hkC, hkind⟩ := hK.1 ci _ h1
  obtain ⟨cf, kf, fi, f, hi, hsl⟩ := hSl k hk
  have hlay := ac.hts _ (h2 _ (u_in_lay hk))
  unfold u_lay at hlay
  rw [if_neg (by rw [hfin]; decide)] at hlay
  have hst := (u_facts hfc hkC (u_lays ac.hts h2 hk) hi).1
  have h6 := u_store hfc hkC hkind hlay hi hty hnv hfit
  refine W.putK ac.1 ac.2.1 (f := f) ⟨ac.own, ac.hts _ hlink, ⟨_, _, _, GF.same ac.hts hsame _ hi⟩, hst⟩ (by rw [q2]; exact h6) q1 q3 (by rw [hsl]; exact k2_hasslot (q4 k hk)) rfl rfl hd fun H' e1 e2 e3 => ?_
  rw [hsl] at e1 ⊢
  exact kk p e R s m args below meth c Q H' _ cells slots jl ac (hp.set ⟨_, h1, t_OB.to (V := updV (vp_V fs) k v) ⟨_, e1, q2, q3, t_set q4 hap hk v⟩ (fun j _ => vp_updV_set hk0 v j)⟩ e2 e3) (hS.own e2 e3 hB) hl hce hs kr
theorem ax_putF {index ci k a : Nat} {ty : FieldType} {fs : List Value} {v : Value} (hd : decode Y.2.1 pc = .ok (.putfield index, 3)) (hg : GI Y.1.cls index ci k ty) (hi0 : Y.1.name = "<init>") (hB : gB G ≤ a) (hn : a < h.1) (hc : h.2 a = .inr (ci, fs)) (hk0 : k < fs.length) (hnv : narrow ty v = v) (hfit : fits ty v = true) (kk : AX G d Y (pc + 3) ls st (h.1, va_up h.2 a (.inr (ci, fs.set k v))) mc ms Post) : AX G d Y pc ls (v :: .ref a :: st) h mc ms Post := by
  intro p e R s m args below meth c Q H locs cells slots jl ac hp hS hl hce hs kr
  obtain ⟨C, T, N, ty0, ⟨h1, h2, h3, h4⟩, hk, hlink, hdecl, hfin, hty⟩ := hg
  have hK := ac.gs.1
  have hap := va_apart (own := Y.1.cls) ac.hts h2 ty0 h3 h4 hK h1
  obtain ⟨r, h1', cell, q1, q2, q3, q4⟩ := hp.one hB hn hc 0 _ rfl
  have hr : r = (C, T, N) := Option.some.inj (h1'.symm.trans h1)
  subst hr
  obtain ⟨hSl, hfc, kC, hkC, hkind⟩ := hK.1 ci _ h1
  obtain ⟨cf, kf, fi, f, hi, hsl⟩ := hSl k hk
  have hlay := ac.hts _ (h2 _ (u_in_lay hk))
  unfold u_lay at hlay
  rw [if_pos hfin] at hlay
  have hst := (u_facts hfc hkC (u_lays ac.hts h2 hk) hi).1
  have hcf : m.cls = cf := by
    obtain ⟨_, _, c', _, _, _, -, -, hf', -, -, -, hown2, -⟩ := Cond.laysFinal_spec hlay
    have e1 : c' = cf := by have := hi.symm.trans hf'; simp at this; exact this.1.symm
    rw [hdecl] at hown2
    rw [← e1]; exact Option.some.inj (ac.own.symm.trans hown2)
  have h6 := u_fits hfc hkC hkind (Or.inr hlay) hi hty hnv hfit
  have hname : meth.name = "<init>" := ac.2.2.2.2.2.2.2.1.trans hi0
  rw [← hdecl] at hlink
  have hlk := ac.hts _ hlink
  rw [hdecl] at hlk
  have hi2 := hi
  rw [hdecl] at hi2
  refine W.putFinK ac.1 ac.2.1 ac.own hlk hi2 hst hcf hname (by rw [q2]; exact h6) q1 q3 (by rw [hsl]; exact k2_hasslot (q4 k hk)) rfl rfl hd fun H' e1 e2 e3 => ?_
  rw [hsl] at e1 ⊢
  exact kk p e R s m args below meth c Q H' _ cells slots jl ac (hp.set ⟨_, h1, t_OB.to (V := updV (vp_V fs) k v) ⟨_, e1, q2, q3, t_set q4 hap hk v⟩ (fun j _ => vp_updV_set hk0 v j)⟩ e2 e3) (hS.own e2 e3 hB) hl hce hs kr
theorem ax_iald {a n : Nat} {f : Nat → Int32} {i : Int32} (hd : decode Y.2.1 pc = .ok (.iaload, 1)) (hB : gB G ≤ a) (hn : a < h.1) (hc : h.2 a = .inl (gC G 0, n, .inl f)) (hin : vp_in i n) (kk : AX G d Y (pc + 1) ls (.int (f i.toNatClampNeg) :: st) h mc ms Post) : AX G d Y pc ls (.int i :: .ref a :: st) h mc ms Post :=
  fun p e R s m args below meth c Q H locs cells slots jl ac hp hS hl hce hs kr => va_iald ac.1 ac.2.1 ac.gs.1 (hp.one hB hn hc) 0 0 rfl rfl hin hd (kk p e R s m args below meth c Q H locs cells slots jl ac hp hS hl hce hs kr)
theorem ax_bald {a n : Nat} {f : Nat → Int32} {i : Int32} (hd : decode Y.2.1 pc = .ok (.baload, 1)) (hB : gB G ≤ a) (hn : a < h.1) (hc : h.2 a = .inl (gC G 1, n, .inl f)) (hin : vp_in i n) (kk : AX G d Y (pc + 1) ls (.int (f i.toNatClampNeg) :: st) h mc ms Post) : AX G d Y pc ls (.int i :: .ref a :: st) h mc ms Post :=
  fun p e R s m args below meth c Q H locs cells slots jl ac hp hS hl hce hs kr => va_bald ac.1 ac.2.1 ac.gs.1 (hp.one hB hn hc) 0 1 rfl rfl hin hd (kk p e R s m args below meth c Q H locs cells slots jl ac hp hS hl hce hs kr)
theorem ax_zald {a n : Nat} {f : Nat → Int32} {i : Int32} (hd : decode Y.2.1 pc = .ok (.baload, 1)) (hB : gB G ≤ a) (hn : a < h.1) (hc : h.2 a = .inl (gC G 2, n, .inl f)) (hin : vp_in i n) (kk : AX G d Y (pc + 1) ls (.int (f i.toNatClampNeg) :: st) h mc ms Post) : AX G d Y pc ls (.int i :: .ref a :: st) h mc ms Post :=
  fun p e R s m args below meth c Q H locs cells slots jl ac hp hS hl hce hs kr => va_zald ac.1 ac.2.1 ac.gs.1 (hp.one hB hn hc) 0 2 rfl rfl hin hd (kk p e R s m args below meth c Q H locs cells slots jl ac hp hS hl hce hs kr)
theorem ax_alen {a : Nat} {t : Nat} {ty : FieldType} {x : vp_A} {v : Int32} (hd : decode Y.2.1 pc = .ok (.arraylength, 1)) (hB : gB G ≤ a) (hn : a < h.1) (hc : h.2 a = .inl (gC G t, x)) (ht : (gT G)[t]? = some (gC G t, ty)) (hv : Int32.ofNat x.1 = v) (kk : AX G d Y (pc + 1) ls (.int v :: st) h mc ms Post) : AX G d Y pc ls (.ref a :: st) h mc ms Post :=
  fun p e R s m args below meth c Q H locs cells slots jl ac hp hS hl hce hs kr => va_alen ac.1 ac.2.1 ac.gs.1 (hp.one hB hn hc) 0 t rfl ht hv hd (kk p e R s m args below meth c Q H locs cells slots jl ac hp hS hl hce hs kr)
theorem ax_aald {a n t : Nat} {ty : FieldType} {f : Nat → Option Nat} {i : Int32} (hd : decode Y.2.1 pc = .ok (.aaload, 1)) (hB : gB G ≤ a) (hn : a < h.1) (hc : h.2 a = .inl (gC G t, n, .inr (.inr (.inr (.inr f))))) (ht : (gT G)[t]? = some (gC G t, ty)) (hty : ty.isReference = true) (hin : vp_in i n) (kk : AX G d Y (pc + 1) ls (va_rf (f i.toNatClampNeg) :: st) h mc ms Post) : AX G d Y pc ls (.int i :: .ref a :: st) h mc ms Post := by
  intro p e R s m args below meth c Q H locs cells slots jl ac hp hS hl hce hs kr
  have hlt : i.toNatClampNeg < n := Nat.not_le.mp fun q => hin (Or.inr q)
  exact W.aald (v := va_rf (f i.toNatClampNeg)) (ty := ty) ac.1 ac.2.1 (hp.one hB hn hc 0 _ rfl) ((ac.gs.1.2 t _ ht).1 n (fun j => va_rf (f j))) hty (fun q => by cases q) (by show ¬ (i < 0 ∨ (arrV _ _ _).slots.size ≤ _); rw [arrV_size]; exact hin) (by show (arrV _ _ _).slots[_]? = _; rw [arrV_read _ _ hlt]) rfl rfl hd (kk p e R s m args below meth c Q H locs cells slots jl ac hp hS hl hce hs kr)
theorem ax_iast {a n : Nat} {f : Nat → Int32} {i x : Int32} (hd : decode Y.2.1 pc = .ok (.iastore, 1)) (hB : gB G ≤ a) (hn : a < h.1) (hc : h.2 a = .inl (gC G 0, n, .inl f)) (hin : vp_in i n) (kk : AX G d Y (pc + 1) ls st (h.1, va_up h.2 a (.inl (gC G 0, n, .inl (upd f i.toNatClampNeg x)))) mc ms Post) : AX G d Y pc ls (.int x :: .int i :: .ref a :: st) h mc ms Post := by
  intro p e R s m args below meth c Q H locs cells slots jl ac hp hS hl hce hs kr
  refine W.iast ac.1 ac.2.1 (hp.one hB hn hc 0 _ rfl) ((ac.gs.1.2 0 _ rfl).1 n (fun j => .int (f j))) (fun q => by cases q) (by show ¬ (i < 0 ∨ (arrV _ _ _).slots.size ≤ _); rw [arrV_size]; exact hin) rfl rfl hd fun H1 e1 z oq => ?_
  refine kk p e R s m args below meth c Q H1 _ cells slots jl ac (hp.set ?_ z oq) (hS.own z oq hB) hl hce hs kr
  show H1[a]? = some (vp_cell _ _)
  rw [e1]
  rw [vp_cell_i, vp_cell_i, arrV_store]
  congr 2
  funext q
  by_cases hq : q = i.toNatClampNeg
  · subst hq
    simp [updV, upd]
  · simp [updV, upd, hq]
theorem ax_bast {a n : Nat} {f : Nat → Int32} {i x : Int32} (hd : decode Y.2.1 pc = .ok (.bastore, 1)) (hB : gB G ≤ a) (hn : a < h.1) (hc : h.2 a = .inl (gC G 1, n, .inl f)) (hin : vp_in i n) (kk : AX G d Y (pc + 1) ls st (h.1, va_up h.2 a (.inl (gC G 1, n, .inl (upd f i.toNatClampNeg (vp_nar .byte x))))) mc ms Post) : AX G d Y pc ls (.int x :: .int i :: .ref a :: st) h mc ms Post := by
  intro p e R s m args below meth c Q H locs cells slots jl ac hp hS hl hce hs kr
  refine W.bast ac.1 ac.2.1 (hp.one hB hn hc 0 _ rfl) ((ac.gs.1.2 1 _ rfl).1 n (fun j => .int (f j))) (fun q => by cases q) (by show ¬ (i < 0 ∨ (arrV _ _ _).slots.size ≤ _); rw [arrV_size]; exact hin) rfl rfl hd fun H1 e1 z oq => ?_
  refine kk p e R s m args below meth c Q H1 _ cells slots jl ac (hp.set ?_ z oq) (hS.own z oq hB) hl hce hs kr
  show H1[a]? = some (vp_cell _ _)
  rw [e1]
  rw [vp_cell_i, vp_cell_i, arrV_store]
  congr 2
  funext q
  by_cases hq : q = i.toNatClampNeg
  · subst hq
    simp [updV, upd, vp_nar]
    try rfl
  · simp [updV, upd, hq]
theorem ax_zast {a n : Nat} {f : Nat → Int32} {i x : Int32} (hd : decode Y.2.1 pc = .ok (.bastore, 1)) (hB : gB G ≤ a) (hn : a < h.1) (hc : h.2 a = .inl (gC G 2, n, .inl f)) (hin : vp_in i n) (kk : AX G d Y (pc + 1) ls st (h.1, va_up h.2 a (.inl (gC G 2, n, .inl (upd f i.toNatClampNeg (vp_nar .boolean x))))) mc ms Post) : AX G d Y pc ls (.int x :: .int i :: .ref a :: st) h mc ms Post := by
  intro p e R s m args below meth c Q H locs cells slots jl ac hp hS hl hce hs kr
  refine W.zast ac.1 ac.2.1 (hp.one hB hn hc 0 _ rfl) ((ac.gs.1.2 2 _ rfl).1 n (fun j => .int (f j))) (fun q => by cases q) (by show ¬ (i < 0 ∨ (arrV _ _ _).slots.size ≤ _); rw [arrV_size]; exact hin) rfl rfl hd fun H1 e1 z oq => ?_
  refine kk p e R s m args below meth c Q H1 _ cells slots jl ac (hp.set ?_ z oq) (hS.own z oq hB) hl hce hs kr
  show H1[a]? = some (vp_cell _ _)
  rw [e1]
  rw [vp_cell_i, vp_cell_i, arrV_store]
  congr 2
  funext q
  by_cases hq : q = i.toNatClampNeg
  · subst hq
    simp [updV, upd, vp_nar]
    try rfl
  · simp [updV, upd, hq]
theorem ax_new {index ci N : Nat} {fs : List Value} (hd : decode Y.2.1 pc = .ok (.new index, 3)) (hw : NW Y.1.cls index ci fs N) (kk : AX G d Y (pc + 3) ls (.ref h.1 :: st) (h.1 + 1, va_up h.2 h.1 (.inr (ci, fs))) mc ms Post) : AX G d Y pc ls st h (mc + 1) (ms + N) Post := by
  intro p e R s m args below meth c Q H locs cells slots jl ac hp hS hl hce hs kr
  obtain ⟨C, T, ty0, ⟨h1, h2, h3, h4⟩, hcl, hin, hini, hfs⟩ := hw
  have hKn := ac.gs.1.1 ci _ h1
  refine W.newcK ac.1 ac.2.1 ac.own (ac.hts _ hcl) (ac.hts _ hin) (ac.hts _ hini) rfl hd (by omega) (by omega) hKn.2.1 hp.1 fun H1 kC hkC e1 z1 o1 => ?_
  rw [← hp.1] at z1 o1
  exact kk p e R s m args below meth c Q H1 locs (cells + 1) (slots + N) jl ac (hp.push ⟨_, h1, (u_born ty0 ac.hts h2 hKn hkC e1 h3).to hfs⟩ z1 o1) (hS.more (by omega) o1) hl (by omega) (by omega) (fun r h' H' locs' cells' slots' pc' jl' hpo hp' hS' c1 c2 => kr r h' H' locs' cells' slots' pc' jl' hpo hp' hS' (by omega) (by omega))
theorem ax_newa {atype : ArrayType} {ty : FieldType} {t N : Nat} {n : Int32} (hd : decode Y.2.1 pc = .ok (.newarray atype, 2)) (hty : newarray.typeOf atype = ty) (ht : (gT G)[t]? = some (gC G t, ty)) (hprim : ty = .int ∨ ty = .byte ∨ ty = .boolean) (hw : Cond.arrayClass ty ∈ tb) (hn : ¬ n < 0) (hN : n.toNatClampNeg = N) (hb : N ≤ 100000) (kk : AX G d Y (pc + 2) ls (.ref h.1 :: st) (h.1 + 1, va_up h.2 h.1 (.inl (gC G t, N, .inl (fun _ => 0)))) mc ms Post) : AX G d Y pc ls (.int n :: st) h (mc + 1) (ms + N) Post := by
  intro p e R s m args below meth c Q H locs cells slots jl ac hp hS hl hce hs kr
  subst hty
  refine va_newaK ac.1 ac.2.1 (ac.hts _ hw) (g := F0 m pc jl (.int n :: st)) rfl hd rfl hn hN (by rcases hprim with e1 | e1 | e1 <;> rw [e1] <;> simp [componentBytes] <;> omega) (by omega) (by omega) hp.1 fun H1 cA e1 z1 o1 hAr hNm => ?_
  have hcA : cA = gC G t := by
    have h2 := (ac.gs.1.2 t _ ht).2
    rcases hprim with e2 | e2 | e2 <;> rw [e2] at h2 hNm <;> exact Option.some.inj (hNm.symm.trans h2)
  subst hcA
  rw [← hp.1] at z1 o1
  refine kk p e R s m args below meth c Q H1 locs (cells + 1) (slots + N) jl ac (hp.push ?_ z1 o1) (hS.more (by omega) o1) hl (by omega) (by omega) (fun r h' H' locs' cells' slots' pc' jl' hpo hp' hS' c1 c2 => kr r h' H' locs' cells' slots' pc' jl' hpo hp' hS' (by omega) (by omega))
  show H1[h.1]? = some (vp_cell _ _)
  rw [e1, vp_cell_i]
  rcases hprim with e2 | e2 | e2 <;> rw [e2] <;> rfl
theorem ax_objInit {index a : Nat} (hd : decode Y.2.1 pc = .ok (.invokespecial index, 3)) (hd1 : 1 ≤ d) (hlink : Cond.methodLink Y.1.cls index Lib.objectInit ∈ tb) (hinst : Cond.instanceMethod Lib.objectInit ∈ tb) (hcode : Cond.code Lib.objectInit ⟨#[0xb1]⟩ 1 none ∈ tb) (hr : (st.map fun v => v.category).sum ≤ 8) (kk : AX G d Y (pc + 3) ls st h mc ms Post) : AX G d Y pc ls (.ref a :: st) h mc ms Post := by
  intro p e R s m args below meth c Q H locs cells slots jl ac hp hS hl hce hs kr
  refine W.objInit ac.1 ac.2.1 ac.own (ac.hts _ hlink) (ac.hts _ hinst) (ac.hts _ hcode) (g := F0 m pc jl (.ref a :: st)) rfl (hl.1.trans ac.2.2.2.1.symm) rfl hd (by have := ac.room; omega) ?_ (kk p e R s m args below meth c Q H locs cells slots jl ac hp hS hl hce hs kr)
  have h1 := ac.room.2
  have h2 : 2 * (F0 m pc jl (.ref a :: st)).monitorRoom + (st.map fun v => v.category).sum ≤ 8 := lv_room hr
  omega
end AXh
