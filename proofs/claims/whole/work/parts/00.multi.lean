/-! THE LIBRARY'S ROW FOR ARRAYS OF ARRAYS, over W -/
theorem wm_cell {x y : Cell} (h1 : x.cls = y.cls) (h2 : x.slots = y.slots) (h3 : x.vm = y.vm) (h4 : x.monitor = y.monitor) (h5 : x.hash = y.hash) : x = y := by
  cases x; cases y; simp_all
theorem wm_mon (c : ClassId) (N h0 : Nat) : ∀ i, (Jvm.Free.Multi.outerC c N h0 i).monitor = {} ∧ (Jvm.Free.Multi.outerC c N h0 i).hash = none
  | 0 => ⟨rfl, rfl⟩
  | i + 1 => by
    obtain ⟨a, b⟩ := wm_mon c N h0 i
    exact ⟨by simp [Jvm.Free.Multi.outerC, Cell.setSlot, a], by simp [Jvm.Free.Multi.outerC, Cell.setSlot, b]⟩
theorem wm_outer (c : ClassId) (N h0 : Nat) : Jvm.Free.Multi.outerC c N h0 N = arrV c N (fun j => .ref (h0 + 1 + j)) := by
  obtain ⟨o1, o2, o3⟩ := Jvm.Free.Multi.outerC_facts c N h0 N
  obtain ⟨o4, o5⟩ := wm_mon c N h0 N
  refine wm_cell o1 ?_ o2 o4 o5
  apply Array.ext
  · rw [o3, arrV_size]
  · intro i h1 h2
    have hi : i < N := by rw [o3] at h1; exact h1
    have q1 := Jvm.Free.Multi.outerC_slot c N h0 N i hi
    have q2 := arrV_read c (fun j => Value.ref (h0 + 1 + j)) hi
    rw [if_pos hi, Array.getElem?_eq_getElem h1] at q1
    rw [Array.getElem?_eq_getElem h2] at q2
    exact Option.some.inj (q1.trans q2.symm)
theorem wm_mna {p : Program} {l : Launch} {e : Env} {R : Room} {s : State} {m : MethodId} {args : Array Value} {below : List Frame} {meth : Method} {c : Code} {H : Heap} {locs : List Loc} {cells slots : Nat} {Q : State → Prop} {cc : ByteArray} (hexec : p.tables.exec = Jvm.exec) (hb : c.code = cc) {own : String} {index : Nat} (hown : s.vm.findClass own = some m.cls) (hclink : (Cond.classLink own index "[[I").before args s = true) (hover : (Cond.arrayOver (.array .int)).before args s = true) (harr : (Cond.arrayClass .int).before args s = true)
    {g : JFrame} (hg : g.method = m) (hdg : decode cc g.pc = .ok (.multianewarray index 2, 4)) {n k : Int32} {rest : List Value} (hstack : g.stack = .int k :: .int n :: rest) (hn : ¬ n < 0) (hk : ¬ k < 0) {N K : Nat} (hN : n.toNatClampNeg = N) (hK : k.toNatClampNeg = K) (hb1 : N ≤ 1000) (hb2 : K ≤ 1000) (hcells : cells + (1 + N) ≤ R.cells) (hslots : slots + (N + N * K) ≤ R.slots) {h : Nat} (hh : H.size = h)
    (kk : ∀ (H' : Heap) (cA comp : ClassId), s.vm.findClass "[[I" = some cA → s.vm.findClass "[I" = some comp → H'.size = h + 1 + N → (∀ q, q < h → H'[q]? = H[q]?) → H'[h]? = some (arrV cA N (fun j => .ref (h + 1 + j))) → (∀ j, j < N → H'[h + 1 + j]? = some (arrV comp K (fun _ => .int 0))) →
      W p l e R s m args below meth c H' locs (cells + 1 + N) (slots + N + N * K) Q { g with pc := g.pc + 4, stack := .ref h :: rest }) : W p l e R s m args below meth c H locs cells slots Q g := by
  intro T hT X
  subst hT; subst hb; subst hN; subst hK; subst hh
  obtain ⟨vm₁, cA, comp, hW, hfA, hfC, hO, hI, X1, st⟩ := X.multianewarray2F hexec (ty := .int) hown hclink hover harr hg hdg hstack hn hk (by omega) (by show k.toNatClampNeg * 4 ≤ _; omega) (by omega) rfl rfl (by omega) hslots
  obtain ⟨f1, f2, f3, f4⟩ := Jvm.Free.Multi.fill_facts (T.setVm vm₁) cA comp n.toNatClampNeg k.toNatClampNeg (defaultValue .int) n.toNatClampNeg
  have fo := fun (a : Addr) (ha : a < T.heap.size) => Jvm.Free.Multi.fill_old (T.setVm vm₁) cA comp n.toNatClampNeg k.toNatClampNeg (defaultValue .int) (a := a) ha n.toNatClampNeg
  have fi := fun (j : Nat) (hj : j < n.toNatClampNeg) => Jvm.Free.Multi.fill_inner (T.setVm vm₁) cA comp n.toNatClampNeg k.toNatClampNeg (defaultValue .int) n.toNatClampNeg j hj
  obtain ⟨t, a1, b1⟩ := kk _ cA comp hfA hfC f1 (fun q hq => fo q hq) (by rw [← wm_outer]; exact f2) (fun j hj => by rw [← arrV_new]; exact fi j hj) _ rfl X1
  exact ⟨t, st t a1, b1⟩
