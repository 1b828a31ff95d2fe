/-! THE CLASS: rows for references stored in arrays, casts -/
/-- a thing of class C may stand where class r is asked -/
def caOK (C r : String) : Prop := C = r ∨ Cond.castable C r ∈ castW
section CRq
variable {G : Gt} {d : Nat} {Y : Yt} {pc : Nat} {ls : List (Option Value)} {st : List Value} {h : Ht} {mc ms : Nat} {Post : Option Value → Ht → Prop}
theorem ax_aast {a n t ci v N : Nat} {r C : String} {T : u_T} {fs : List Value} {f : Nat → Option Nat} {i : Int32} (hd : decode Y.2.1 pc = .ok (.aastore, 1)) (hB : gB G ≤ a) (hn : a < h.1) (hc : h.2 a = .inl (gC G t, n, .inr (.inr (.inr (.inr f))))) (ht : (gT G)[t]? = some (gC G t, .object r)) (hin : vp_in i n) (hBv : gB G ≤ v) (hnv : v < h.1) (hv : h.2 v = .inr (ci, fs)) (hcl : vwCl[ci]? = some (C, T, N)) (hok : caOK C r) (kk : AX G d Y (pc + 1) ls st (h.1, va_up h.2 a (.inl (gC G t, n, .inr (.inr (.inr (.inr (va_up f i.toNatClampNeg (some v)))))))) mc ms Post) : AX G d Y pc ls (.ref v :: .int i :: .ref a :: st) h mc ms Post := by
  intro p e R s m args below meth c Q H locs cells slots jl ac hp hS hl hce hs kr
  have hlt : i.toNatClampNeg < n := Nat.not_le.mp fun q => hin (Or.inr q)
  have h0 : ¬ i < 0 := fun q => hin (Or.inl q)
  obtain ⟨r', hr', cellV, g1, g2, g3, -⟩ := hp.one hBv hnv hv 0 _ rfl
  have hcls := (ac.gs.1.1 ci _ hcl).2
  obtain ⟨kA, comp, k1, k2, k3, -⟩ := (ac.gs.1.2 t _ ht).2
  obtain ⟨kC, hkC, -⟩ := hcls.2
  obtain ⟨kcomp, hkcomp, -⟩ := Vm.findClass_spec k3
  have hass : s.vm.assignable (gD G |>.1 ci) comp = true := by
    rcases hok with hok | hok
    · subst hok
      have : comp = (gD G).1 ci := Option.some.inj (k3.symm.trans hcls.1)
      rw [this]
      exact va_assign hcls
    · obtain ⟨c0, t0, q1, q2, q3⟩ := Cond.castable_spec (va_Nw.use (A := args) rfl (ac.gs.2.2.2.1 _ hok))
      cases hcls.1.symm.trans q1
      cases k3.symm.trans q2
      exact q3
  refine W.aast ac.1 ac.2.1 (hp.one hB hn hc 0 _ rfl) (fun q h => by cases h) (fun h => by cases h) k1 k2 rfl hkcomp ⟨h0, by show _ < (arrV _ _ _).slots.size; rw [arrV_size]; exact hlt⟩ g1 (fun q h => by rw [g3] at h; cases h) (by rw [g2]; exact hkC) (by rw [g2]; exact hass) rfl rfl hd fun H1 e1 z oq => ?_
  refine kk p e R s m args below meth c Q H1 _ cells slots jl ac (hp.set ?_ z oq) (hS.own z oq hB) hl hce hs kr
  show H1[a]? = some (vp_cell _ _)
  rw [e1]
  rw [vp_cell_q, vp_cell_q, arrV_store]
  congr 2
  funext q
  by_cases hq : q = i.toNatClampNeg
  · subst hq
    simp [updV, va_up, va_rf]
  · simp [updV, va_up, hq]
theorem ax_aastN {a n t : Nat} {r : String} {f : Nat → Option Nat} {i : Int32} (hd : decode Y.2.1 pc = .ok (.aastore, 1)) (hB : gB G ≤ a) (hn : a < h.1) (hc : h.2 a = .inl (gC G t, n, .inr (.inr (.inr (.inr f))))) (ht : (gT G)[t]? = some (gC G t, .object r)) (hin : vp_in i n) (kk : AX G d Y (pc + 1) ls st (h.1, va_up h.2 a (.inl (gC G t, n, .inr (.inr (.inr (.inr (va_up f i.toNatClampNeg none))))))) mc ms Post) : AX G d Y pc ls (.null :: .int i :: .ref a :: st) h mc ms Post := by
  intro p e R s m args below meth c Q H locs cells slots jl ac hp hS hl hce hs kr T hT X
  have hlt : i.toNatClampNeg < n := Nat.not_le.mp fun q => hin (Or.inr q)
  have h0 : ¬ i < 0 := fun q => hin (Or.inl q)
  have e0 : H[a]? = some (arrV (gC G t) n (fun j => va_rf (f j))) := hp.one hB hn hc 0 _ rfl
  have hT' : T.heap[a]? = some (arrV (gC G t) n (fun j => va_rf (f j))) := by rw [hT]; exact e0
  obtain ⟨kA, comp, k1, k2, k3, -⟩ := (ac.gs.1.2 t _ ht).2
  obtain ⟨X', st'⟩ := X.aastoreNullIn ac.1 hT' (fun q h => by cases h) (fun h => by cases h) k1 k2 rfl ⟨h0, by rw [arrV_size]; exact hlt⟩ (g := F0 m pc jl (.null :: .int i :: .ref a :: st)) rfl (rest := st) rfl (by rw [ac.2.1]; exact hd)
  have hla : a < T.heap.size := (Array.getElem?_eq_some_iff.mp hT').1
  generalize hcell : (arrV (gC G t) n (fun j => va_rf (f j))).setSlot i.toNatClampNeg .null = cell9 at X' st'
  have z : (T.setCell a cell9).heap.size = H.size := by rw [size_setCell, hT]
  have oq : ∀ q : Nat, q ≠ a → (T.setCell a cell9).heap[q]? = H[q]? := fun q hq => by rw [heapAt_setCell_ne _ (Ne.symm hq), hT]
  obtain ⟨t', a1, b1⟩ := kk p e R s m args below meth c Q (T.setCell a cell9).heap _ cells slots jl ac (hp.set (by
      show (T.setCell a cell9).heap[a]? = some (vp_cell _ _)
      rw [heapAt_setCell_self _ hla, ← hcell]
      rw [vp_cell_q, arrV_store]
      congr 2
      funext q
      by_cases hq : q = i.toNatClampNeg
      · subst hq
        simp [updV, va_up, va_rf]
      · simp [updV, va_up, hq]) z oq) (hS.own z oq hB) hl hce hs kr _ rfl X'
  exact ⟨t', st' t' a1, b1⟩
end CRq
theorem nm_ok : ∀ v : Int32, caOK (nmN (kci v)) RX2 := fun v => kci_p (fun c => caOK (nmN c) RX2) v (Or.inl rfl) (Or.inr (by decide +kernel)) (Or.inr (by decide +kernel)) (Or.inr (by decide +kernel)) (Or.inr (by decide +kernel)) (Or.inr (by decide +kernel))
section CXo
variable {G : Gt} {m : Nat → Prop} {M0 : Nat → va_E} {Q : Qt} {d : Nat} {Y : Yt} {pc : Nat} {ls : List (Option Value)} {st : List Value} {S : MS} {mc ms : Nat} {Post : Option Value → MS → Prop}
theorem cE_21 {i : Nat} {v : Int32} {o : Option Nat} (hv : (if i < Q.2.1 ∧ v = 1 then some (Q.1 33 i) else none) = o) : cE G Q (up2 S 67 i v) 21 0 = .inl (gC G 3, 3, .inr (.inr (.inr (.inr (va_up (fun q => if q < Q.2.1 ∧ S 67 q = 1 then some (Q.1 33 q) else none) i o))))) := by
  show (.inl (gC G 3, 3, .inr (.inr (.inr (.inr (fun q => if q < Q.2.1 ∧ up2 S 67 i v 67 q = 1 then some (Q.1 33 q) else none))))) : va_E) = _
  congr 7
  funext q
  by_cases e : q = i
  · subst e
    rw [up2_eq, pk_us, hv]
    simp [va_up]
  · rw [up2_eq, pk_un e]
    simp [va_up, e]
theorem cx_openS {i : Nat} (hd : decode Y.2.1 pc = .ok (.aastore, 1)) (hi : i < 3) (hc : i < Q.2.1) (kk : PX G (CPic G m M0 Q) d Y (pc + 1) ls st (up2 S 67 i 1) mc ms Post) : PX G (CPic G m M0 Q) d Y pc ls (.ref (Q.1 33 i) :: .int (nI i) :: .ref (Q.1 21 0) :: st) S mc ms Post := by
  intro h hp
  refine ax_aast (t := 3) (r := RX2) hd (hp.1 21 0 Nat.one_pos).1 (hp.1 21 0 Nat.one_pos).2.1 ((hp.2.2.1 21 0 Nat.one_pos).trans rfl) rfl (vp_in_nI hi (by decide)) (hp.1 33 i hc).1 (hp.1 33 i hc).2.1 ((hp.2.2.1 33 i hc).trans rfl) (vk_cl _) (nm_ok _) ?_
  rw [nI_clamp (by omega)]
  exact kk _ (hp.up Nat.one_pos (by decide) rfl (cE_21 (if_pos ⟨hc, rfl⟩)))
theorem cx_openN {i : Nat} (hd : decode Y.2.1 pc = .ok (.aastore, 1)) (hi : i < 3) (kk : PX G (CPic G m M0 Q) d Y (pc + 1) ls st (up2 S 67 i 0) mc ms Post) : PX G (CPic G m M0 Q) d Y pc ls (.null :: .int (nI i) :: .ref (Q.1 21 0) :: st) S mc ms Post := by
  intro h hp
  refine ax_aastN (t := 3) (r := RX2) hd (hp.1 21 0 Nat.one_pos).1 (hp.1 21 0 Nat.one_pos).2.1 ((hp.2.2.1 21 0 Nat.one_pos).trans rfl) rfl (vp_in_nI hi (by decide)) ?_
  rw [nI_clamp (by omega)]
  exact kk _ (hp.up Nat.one_pos (by decide) rfl (cE_21 (if_neg (fun q => absurd q.2 (by decide)))))
theorem cr_pos {i : Nat} {a : Nat → Nat} {n : Nat} (h : i < n) : va_rf ((fun q => if q < n then some (a q) else none) i) = .ref (a i) := by
  show va_rf (if i < n then some (a i) else none) = _
  rw [if_pos h]; rfl
theorem cr_neg {i : Nat} {a : Nat → Nat} {n : Nat} (h : ¬ i < n) : va_rf ((fun q => if q < n then some (a q) else none) i) = .null := by
  show va_rf (if i < n then some (a i) else none) = _
  rw [if_neg h]; rfl
theorem co_pos {i : Nat} {a : Nat → Nat} {n : Nat} (h : S 67 i = 1) (hc : i < n) : va_rf ((fun q => if q < n ∧ S 67 q = 1 then some (a q) else none) i) = .ref (a i) := by
  show va_rf (if i < n ∧ S 67 i = 1 then some (a i) else none) = _
  rw [if_pos ⟨hc, h⟩]; rfl
theorem co_neg {i : Nat} {a : Nat → Nat} {n : Nat} (h : ¬ S 67 i = 1) : va_rf ((fun q => if q < n ∧ S 67 q = 1 then some (a q) else none) i) = .null := by
  show va_rf (if i < n ∧ S 67 i = 1 then some (a i) else none) = _
  rw [if_neg (fun q => h q.2)]; rfl
end CXo
