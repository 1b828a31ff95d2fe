/-! THE CLASS: kinds; loops over the coats -/
section CRi
variable {G : Gt} {d : Nat} {Y : Yt} {pc : Nat} {ls : List (Option Value)} {st : List Value} {h : Ht} {mc ms : Nat} {Post : Option Value → Ht → Prop}
theorem ax_instY {index a ci N : Nat} {C nm : String} {T : u_T} {fs : List Value} (hd : decode Y.2.1 pc = .ok (.instanceof index, 3)) (hl : Cond.classLink Y.1.cls index nm ∈ tb) (hB : gB G ≤ a) (hn : a < h.1) (hc : h.2 a = .inr (ci, fs)) (hcl : vwCl[ci]? = some (C, T, N)) (hok : caOK C nm) (kk : AX G d Y (pc + 3) ls (.int 1 :: st) h mc ms Post) : AX G d Y pc ls (.ref a :: st) h mc ms Post := by
  intro p e R s m args below meth c Q H locs cells slots jl ac hp hS hlr hce hs kr
  have hr := ax_recv ac hp hB hn hc hcl
  rcases hok with hok | hok
  · subst hok
    exact va_instS ac.1 ac.2.1 ac.own (ac.hts _ hl) (ac.gs.1.1 ci _ hcl).2 hr hd (kk p e R s m args below meth c Q H locs cells slots jl ac hp hS hlr hce hs kr)
  · exact va_instY ac.1 ac.2.1 ac.own (ac.hts _ hl) (ac.gs.2.2.2.1 _ hok) hr hd (kk p e R s m args below meth c Q H locs cells slots jl ac hp hS hlr hce hs kr)
theorem ax_instN {index a ci N : Nat} {C nm : String} {T : u_T} {fs : List Value} (hd : decode Y.2.1 pc = .ok (.instanceof index, 3)) (hl : Cond.classLink Y.1.cls index nm ∈ tb) (hB : gB G ≤ a) (hn : a < h.1) (hc : h.2 a = .inr (ci, fs)) (hcl : vwCl[ci]? = some (C, T, N)) (hno : (C, nm) ∈ ncW) (kk : AX G d Y (pc + 3) ls (.int 0 :: st) h mc ms Post) : AX G d Y pc ls (.ref a :: st) h mc ms Post := by
  intro p e R s m args below meth c Q H locs cells slots jl ac hp hS hlr hce hs kr
  exact va_instNo ac.1 ac.2.1 ac.own (ac.hts _ hl) (ac.gs.2.2.2.2.2.1 _ hno) (ax_recv ac hp hB hn hc hcl) hd (kk p e R s m args below meth c Q H locs cells slots jl ac hp hS hlr hce hs kr)
theorem ax_inst0 {index : Nat} (hd : decode Y.2.1 pc = .ok (.instanceof index, 3)) (kk : AX G d Y (pc + 3) ls (.int 0 :: st) h mc ms Post) : AX G d Y pc ls (.null :: st) h mc ms Post :=
  fun p e R s m args below meth c Q H locs cells slots jl ac hp hS hlr hce hs kr => lv_instN ac.1 ac.2.1 hd (kk p e R s m args below meth c Q H locs cells slots jl ac hp hS hlr hce hs kr)
theorem ax_castY {index a ci N : Nat} {C nm : String} {T : u_T} {fs : List Value} (hd : decode Y.2.1 pc = .ok (.checkcast index, 3)) (hl : Cond.classLink Y.1.cls index nm ∈ tb) (hB : gB G ≤ a) (hn : a < h.1) (hc : h.2 a = .inr (ci, fs)) (hcl : vwCl[ci]? = some (C, T, N)) (hok : caOK C nm) (kk : AX G d Y (pc + 3) ls (.ref a :: st) h mc ms Post) : AX G d Y pc ls (.ref a :: st) h mc ms Post := by
  intro p e R s m args below meth c Q H locs cells slots jl ac hp hS hlr hce hs kr
  have hr := ax_recv ac hp hB hn hc hcl
  rcases hok with hok | hok
  · subst hok
    exact va_castS ac.1 ac.2.1 ac.own (ac.hts _ hl) (ac.gs.1.1 ci _ hcl).2 hr hd (kk p e R s m args below meth c Q H locs cells slots jl ac hp hS hlr hce hs kr)
  · exact va_castY ac.1 ac.2.1 ac.own (ac.hts _ hl) (ac.gs.2.2.2.1 _ hok) hr hd (kk p e R s m args below meth c Q H locs cells slots jl ac hp hS hlr hce hs kr)
end CRi
def iB (b : Bool) : Int32 := if b then 1 else 0
/-- a coat of kind v is of the class nm, or isn't -/
def isK (v : Int32) (nm : String) (b : Bool) : Prop := (b = true ∧ caOK (nmN (kci v)) nm) ∨ (b = false ∧ (nmN (kci v), nm) ∈ ncW)
section CXi
variable {G : Gt} {m : Nat → Prop} {M0 : Nat → va_E} {Q : Qt} {d : Nat} {Y : Yt} {pc : Nat} {ls : List (Option Value)} {st : List Value} {S : MS} {mc ms : Nat} {Post : Option Value → MS → Prop}
theorem cx_inst {index i : Nat} {nm : String} {b : Bool} (hd : decode Y.2.1 pc = .ok (.instanceof index, 3)) (hl : Cond.classLink Y.1.cls index nm ∈ tb) (hc : i < Q.2.1) (hb : isK (S 7 i) nm b) (kk : PX G (CPic G m M0 Q) d Y (pc + 3) ls (.int (iB b) :: st) S mc ms Post) : PX G (CPic G m M0 Q) d Y pc ls (.ref (Q.1 33 i) :: st) S mc ms Post := by
  intro h hp
  rcases hb with ⟨rfl, hok⟩ | ⟨rfl, hno⟩
  · exact ax_instY hd hl (hp.1 33 i hc).1 (hp.1 33 i hc).2.1 ((hp.2.2.1 33 i hc).trans rfl) (vk_cl _) hok (kk h hp)
  · exact ax_instN hd hl (hp.1 33 i hc).1 (hp.1 33 i hc).2.1 ((hp.2.2.1 33 i hc).trans rfl) (vk_cl _) hno (kk h hp)
theorem px_inst0 {σ : Type} {Pic : σ → Ht → Prop} {S : σ} {Post : Option Value → σ → Prop} {index : Nat} (hd : decode Y.2.1 pc = .ok (.instanceof index, 3)) (kk : PX G Pic d Y (pc + 3) ls (.int 0 :: st) S mc ms Post) : PX G Pic d Y pc ls (.null :: st) S mc ms Post := fun h hp => ax_inst0 hd (kk h hp)
theorem cx_cast {index i : Nat} {nm : String} (hd : decode Y.2.1 pc = .ok (.checkcast index, 3)) (hl : Cond.classLink Y.1.cls index nm ∈ tb) (hc : i < Q.2.1) (hok : caOK (nmN (kci (S 7 i))) nm) (kk : PX G (CPic G m M0 Q) d Y (pc + 3) ls (.ref (Q.1 33 i) :: st) S mc ms Post) : PX G (CPic G m M0 Q) d Y pc ls (.ref (Q.1 33 i) :: st) S mc ms Post :=
  fun h hp => ax_castY hd hl (hp.1 33 i hc).1 (hp.1 33 i hc).2.1 ((hp.2.2.1 33 i hc).trans rfl) (vk_cl _) hok (kk h hp)
end CXi
section CXt
variable {σ : Type} {G : Gt} {Pic : σ → Ht → Prop} {d d1 : Nat} {Y Y' : Yt} {pc index n : Nat} {ls : List (Option Value)} {st st0 av : List Value} {S : σ} {mc ms : Nat} {Post : Option Value → σ → Prop}
theorem px_callSI {P : Int32 → σ → Prop} (hd : decode Y.2.1 pc = .ok (.invokestatic index, 3)) (hl : cLLS Y.1.cls index Y' n) (hn : av.length = n) (hst : st0 = av.reverse ++ st) (hC : PC G Pic d1 Y' av S 0 0 (ri P)) (hdd : d1 + 1 ≤ d) (hcat : (st.map fun v => v.category).sum ≤ 8) (kk : ∀ x S', P x S' → PX G Pic d Y (pc + 3) ls (.int x :: st) S' mc ms Post) : PX G Pic d Y pc ls st0 S mc ms Post :=
  fun h hp => ax_budget (Nat.le_of_eq (Nat.zero_add mc)) (Nat.le_of_eq (Nat.zero_add ms)) (ax_callS hd hl hn hst hdd hcat (hC h hp) (fun r h' hq => by obtain ⟨S', hp', x, rfl, hP⟩ := hq; exact kk x S' hP h' hp'))
end CXt
theorem kl_297 : Cond.classLink RX11 297 RX8 ∈ tb := (tb_2 55 rfl rfl)
theorem kl_302 : Cond.classLink RX11 302 RX1 ∈ tb := (tb_2 117 rfl rfl)
theorem kl_305 : Cond.classLink RX11 305 RX0 ∈ tb := (tb_2 134 rfl rfl)
theorem kl_232 : Cond.classLink RX11 232 RX6 ∈ tb := (tb_2 151 rfl rfl)
theorem kl_309 : Cond.classLink RX11 309 RX4 ∈ tb := (tb_2 168 rfl rfl)
theorem isK_1 {S : MS} {i : Nat} (hk : KO S i) : isK (S 7 i) RX8 (decide (mUnder (S 7 i) 1 = 1)) := by
  rcases hk with h | h | h | h | h | h
  · rw [h]; exact Or.inr ⟨by decide, by decide +kernel⟩
  · rw [h]; exact Or.inl ⟨by decide, Or.inl rfl⟩
  · rw [h]; exact Or.inr ⟨by decide, by decide +kernel⟩
  · rw [h]; exact Or.inr ⟨by decide, by decide +kernel⟩
  · rw [h]; exact Or.inl ⟨by decide, Or.inr (by decide +kernel)⟩
  · rw [h]; exact Or.inr ⟨by decide, by decide +kernel⟩
theorem isK_2 {S : MS} {i : Nat} (hk : KO S i) : isK (S 7 i) RX1 (decide (mUnder (S 7 i) 2 = 1)) := by
  rcases hk with h | h | h | h | h | h
  · rw [h]; exact Or.inr ⟨by decide, by decide +kernel⟩
  · rw [h]; exact Or.inr ⟨by decide, by decide +kernel⟩
  · rw [h]; exact Or.inl ⟨by decide, Or.inl rfl⟩
  · rw [h]; exact Or.inr ⟨by decide, by decide +kernel⟩
  · rw [h]; exact Or.inr ⟨by decide, by decide +kernel⟩
  · rw [h]; exact Or.inl ⟨by decide, Or.inr (by decide +kernel)⟩
theorem isK_3 {S : MS} {i : Nat} (hk : KO S i) : isK (S 7 i) RX0 (decide (mUnder (S 7 i) 3 = 1)) := by
  rcases hk with h | h | h | h | h | h
  · rw [h]; exact Or.inr ⟨by decide, by decide +kernel⟩
  · rw [h]; exact Or.inr ⟨by decide, by decide +kernel⟩
  · rw [h]; exact Or.inr ⟨by decide, by decide +kernel⟩
  · rw [h]; exact Or.inl ⟨by decide, Or.inl rfl⟩
  · rw [h]; exact Or.inr ⟨by decide, by decide +kernel⟩
  · rw [h]; exact Or.inr ⟨by decide, by decide +kernel⟩
theorem isK_4 {S : MS} {i : Nat} (hk : KO S i) : isK (S 7 i) RX6 (decide (mUnder (S 7 i) 4 = 1)) := by
  rcases hk with h | h | h | h | h | h
  · rw [h]; exact Or.inr ⟨by decide, by decide +kernel⟩
  · rw [h]; exact Or.inr ⟨by decide, by decide +kernel⟩
  · rw [h]; exact Or.inr ⟨by decide, by decide +kernel⟩
  · rw [h]; exact Or.inr ⟨by decide, by decide +kernel⟩
  · rw [h]; exact Or.inl ⟨by decide, Or.inl rfl⟩
  · rw [h]; exact Or.inr ⟨by decide, by decide +kernel⟩
theorem isK_5 {S : MS} {i : Nat} (hk : KO S i) : isK (S 7 i) RX4 (decide (mUnder (S 7 i) 5 = 1)) := by
  rcases hk with h | h | h | h | h | h
  · rw [h]; exact Or.inr ⟨by decide, by decide +kernel⟩
  · rw [h]; exact Or.inr ⟨by decide, by decide +kernel⟩
  · rw [h]; exact Or.inr ⟨by decide, by decide +kernel⟩
  · rw [h]; exact Or.inr ⟨by decide, by decide +kernel⟩
  · rw [h]; exact Or.inr ⟨by decide, by decide +kernel⟩
  · rw [h]; exact Or.inl ⟨by decide, Or.inl rfl⟩
theorem mUnder_01 (v k : Int32) : mUnder v k = 0 ∨ mUnder v k = 1 := by
  unfold mUnder
  repeat' split
  all_goals first | exact Or.inl rfl | exact Or.inr rfl
theorem iB_u (v k : Int32) : iB (decide (mUnder v k = 1)) = mUnder v k := by
  rcases mUnder_01 v k with h | h <;> rw [h] <;> rfl
theorem isK_o {v kd : Int32} (h : mIn kd 0 5 = 0 ∨ ¬ mIn kd 0 5 = 0) : True := trivial
set_option maxHeartbeats 4000000 in
set_option maxRecDepth 100000 in
theorem c_X11_isOfKind (G : Gt) (m : Nat → Prop) (M0 : Nat → va_E) (Q : Qt) (S : MS) (i : Nat) (kd : Int32) {d : Nat} (hc : i < Q.2.1) (hk : KO S i) (hkd : ¬ mIn kd 0 5 = 0) : PC G (CPic G m M0 Q) d Y11_isOfKind [.ref (Q.1 33 i), .int kd] S 0 0 (ri (fun x S' => x = mUnder (S 7 i) kd ∧ S' = S)) := by
  have hlast : ¬ kd = 1 → ¬ kd = 2 → ¬ kd = 3 → ¬ kd = 4 → ¬ kd = 5 → kd = 0 := by
    intro h1 h2 h3 h4 h5
    obtain ⟨j, hj, e, -⟩ := in_ix (n := 5) (by omega) hkd
    subst e
    rcases (by omega : j = 0 ∨ j = 1 ∨ j = 2 ∨ j = 3 ∨ j = 4 ∨ j = 5) with rfl | rfl | rfl | rfl | rfl | rfl
    · rfl
    · exact absurd rfl h1
    · exact absurd rfl h2
    · exact absurd rfl h3
    · exact absurd rfl h4
    · exact absurd rfl h5
  refine pc_of (ls := [some (.ref (Q.1 33 i)), some (.int kd)]) (by decide +kernel) rfl (Nat.le_of_ble_eq_true rfl) ?_
  refine px_iload_n dX11_isOfKind_0 rfl rfl ?_
  rcases sw_1_5 (kd) with H1 | H1 | H1 | H1 | H1 | H1
  · refine px_tableIn (off := 35) (tgt := 36) dX11_isOfKind_1 (by rw [H1]; decide) (by rw [H1]; decide) (by rw [H1]; rfl) (by decide) ?_
    subst H1
    refine px_aload_n dX11_isOfKind_36 rfl rfl ?_
    refine cx_inst dX11_isOfKind_37 kl_297 hc (isK_1 hk) ?_
    refine px_iretZ dX11_isOfKind_40 rfl (by first | rfl | (unfold iB; split <;> rfl)) ?_
    exact ⟨by first | exact iB_u _ _ | (rw [hlast N1_1 N1_2 N1_3 N1_4 N1_5]; rfl), rfl⟩
  · refine px_tableIn (off := 40) (tgt := 41) dX11_isOfKind_1 (by rw [H1]; decide) (by rw [H1]; decide) (by rw [H1]; rfl) (by decide) ?_
    subst H1
    refine px_aload_n dX11_isOfKind_41 rfl rfl ?_
    refine cx_inst dX11_isOfKind_42 kl_302 hc (isK_2 hk) ?_
    refine px_iretZ dX11_isOfKind_45 rfl (by first | rfl | (unfold iB; split <;> rfl)) ?_
    exact ⟨by first | exact iB_u _ _ | (rw [hlast N1_1 N1_2 N1_3 N1_4 N1_5]; rfl), rfl⟩
  · refine px_tableIn (off := 45) (tgt := 46) dX11_isOfKind_1 (by rw [H1]; decide) (by rw [H1]; decide) (by rw [H1]; rfl) (by decide) ?_
    subst H1
    refine px_aload_n dX11_isOfKind_46 rfl rfl ?_
    refine cx_inst dX11_isOfKind_47 kl_305 hc (isK_3 hk) ?_
    refine px_iretZ dX11_isOfKind_50 rfl (by first | rfl | (unfold iB; split <;> rfl)) ?_
    exact ⟨by first | exact iB_u _ _ | (rw [hlast N1_1 N1_2 N1_3 N1_4 N1_5]; rfl), rfl⟩
  · refine px_tableIn (off := 50) (tgt := 51) dX11_isOfKind_1 (by rw [H1]; decide) (by rw [H1]; decide) (by rw [H1]; rfl) (by decide) ?_
    subst H1
    refine px_aload_n dX11_isOfKind_51 rfl rfl ?_
    refine cx_inst dX11_isOfKind_52 kl_232 hc (isK_4 hk) ?_
    refine px_iretZ dX11_isOfKind_55 rfl (by first | rfl | (unfold iB; split <;> rfl)) ?_
    exact ⟨by first | exact iB_u _ _ | (rw [hlast N1_1 N1_2 N1_3 N1_4 N1_5]; rfl), rfl⟩
  · refine px_tableIn (off := 55) (tgt := 56) dX11_isOfKind_1 (by rw [H1]; decide) (by rw [H1]; decide) (by rw [H1]; rfl) (by decide) ?_
    subst H1
    refine px_aload_n dX11_isOfKind_56 rfl rfl ?_
    refine cx_inst dX11_isOfKind_57 kl_309 hc (isK_5 hk) ?_
    refine px_iretZ dX11_isOfKind_60 rfl (by first | rfl | (unfold iB; split <;> rfl)) ?_
    exact ⟨by first | exact iB_u _ _ | (rw [hlast N1_1 N1_2 N1_3 N1_4 N1_5]; rfl), rfl⟩
  · refine px_tableOut (tgt := 61) dX11_isOfKind_1 H1 (by decide) ?_
    have N1_1 : ¬ kd = 1 := by intro e9; rw [e9] at H1; revert H1; decide
    have N1_2 : ¬ kd = 2 := by intro e9; rw [e9] at H1; revert H1; decide
    have N1_3 : ¬ kd = 3 := by intro e9; rw [e9] at H1; revert H1; decide
    have N1_4 : ¬ kd = 4 := by intro e9; rw [e9] at H1; revert H1; decide
    have N1_5 : ¬ kd = 5 := by intro e9; rw [e9] at H1; revert H1; decide
    refine px_iconst (v := 1) dX11_isOfKind_61 (by decide) ?_
    refine px_iretZ dX11_isOfKind_62 rfl (by first | rfl | (unfold iB; split <;> rfl)) ?_
    exact ⟨by first | exact iB_u _ _ | (rw [hlast N1_1 N1_2 N1_3 N1_4 N1_5]; rfl), rfl⟩
set_option maxHeartbeats 4000000 in
set_option maxRecDepth 100000 in
theorem c_X11_taken (G : Gt) (m : Nat → Prop) (M0 : Nat → va_E) (Q : Qt) (S : MS) (c kd : Int32) (n t : Nat) (hCH : CH S Q n t) : PC G (CPic G m M0 Q) 3 Y11_taken [.ref (Q.1 0 0), .int c, .int kd] S 0 0 (ri (fun x S' => x = f_taken S c kd ∧ S' = S)) := by
  obtain ⟨hPH, hC, hC8, h60, h16, hOB⟩ := hCH
  have hn1 := hPH.1
  have hn6 := hPH.2.1
  have hTX := hPH.2.2.1
  have hWB := hPH.2.2.2.1
  have hco := hPH.2.2.2.2
  have ht := hTX.2.1
  have h6 := hTX.2.2.1
  have hRU : (S 60 0).toNatClampNeg = t := by rw [h60, nI_clamp (by omega)]
  have eN := hN_eq hn1 (by omega)
  have eC := cN_eq hC (by omega)
  refine pc_of (ls := [some (.ref (Q.1 0 0)), some (.int c), some (.int kd), none]) (by decide +kernel) rfl (Nat.le_of_ble_eq_true rfl) ?_
  refine px_iload_n dX11_taken_0 rfl rfl ?_
  refine px_iconst (v := 0) dX11_taken_1 (by decide) ?_
  refine px_iconst (v := 5) dX11_taken_2 (by decide) ?_
  refine px_pure3 dX11_taken_3 lX11_81 (c_X11_isWithin G _ _ _) (by decide) (Nat.le_of_ble_eq_true rfl) ?_
  refine px_if_ne (tgt := 12) dX11_taken_6 (by decide) (fun H6 => ?_) (fun H6 => ?_)
  · skip
    refine px_aload_n dX11_taken_12 rfl rfl ?_
    refine px_iload_n dX11_taken_13 rfl rfl ?_
    refine cx_callR1 (k := 0) (i := 0) dX11_taken_14 lX11_98 rfl Nat.one_pos rfl (c_X11_coatAt G m M0 Q S c hC hC8) (by decide) (Nat.le_of_ble_eq_true rfl) (fun x14 S14 Q14 => ?_)
    obtain ⟨hx14, e14⟩ := Q14
    obtain rfl := e14.symm
    rcases hx14 with ⟨hct, rfl⟩ | ⟨hct, k, hk, ek, rfl⟩
    · skip
      refine px_astoreN_n3 dX11_taken_17 (by decide) rfl ?_
      refine px_aload_nN dX11_taken_18 rfl rfl ?_
      refine px_ifnonnullN dX11_taken_19 ?_
      refine px_bipush (v := (-11)) dX11_taken_22 (by decide) ?_
      refine px_iretI dX11_taken_24 rfl ?_
      exact ⟨by simp [f_taken, *], rfl⟩
    · skip
      subst ek
      have tk : (nI k).toNatClampNeg = k := nI_clamp (by omega)
      have hKO := (hco k hk).1
      have hTK := (hco k hk).2
      refine px_astore_n3 dX11_taken_17 (by decide) rfl ?_
      refine px_aload_n dX11_taken_18 rfl rfl ?_
      refine px_ifnonnull (tgt := 25) dX11_taken_19 (by decide) ?_
      refine px_aload_n dX11_taken_25 rfl rfl ?_
      refine px_iload_n dX11_taken_26 rfl rfl ?_
      refine px_callSI (av := [.ref (Q.1 33 k), .int kd]) dX11_taken_27 lX11_284 rfl rfl (c_X11_isOfKind G m M0 Q S k kd (d := 1) hk hKO H6) (by decide) (Nat.le_of_ble_eq_true rfl) (fun x27 S27 Q27 => ?_)
      obtain ⟨rfl, e27⟩ := Q27
      obtain rfl := e27.symm
      refine px_if_eq (tgt := 40) dX11_taken_30 (by decide) (fun H30 => ?_) (fun H30 => ?_)
      · skip
        refine px_bipush (v := (-13)) dX11_taken_40 (by decide) ?_
        refine px_iretI dX11_taken_42 rfl ?_
        exact ⟨by simp [f_taken, *], rfl⟩
      · skip
        refine px_aload_n dX11_taken_33 rfl rfl ?_
        refine cx_get (k := 33) (i := k) (f := 3) dX11_taken_34 (gk_X11_288 _) rfl (show k < Q.2.1 by omega) rfl ?_
        refine px_goto (tgt := 42) dX11_taken_37 (by decide) ?_
        refine px_iretI dX11_taken_42 rfl ?_
        exact ⟨by simp [f_taken, *], rfl⟩
    -- end
  · skip
    refine px_bipush (v := (-2)) dX11_taken_9 (by decide) ?_
    refine px_iretI dX11_taken_11 rfl ?_
    exact ⟨by simp [f_taken, *], rfl⟩
theorem jMax_l {a b : Int32} : jMax a b = if a < b then b else a := rfl
theorem late_s {x acc : Int32} : acc + jMax x 0 = if 0 < x then acc + x else acc := by
  have h0 : (0 : Int32).toInt = 0 := rfl
  unfold jMax
  simp only [i_lt, h0]
  by_cases h : x.toInt < 0
  · rw [if_pos h, if_neg (by omega), Int32.add_zero]
  · rw [if_neg h]
    by_cases h2 : (0 : Int) < x.toInt
    · rw [if_pos h2]
    · rw [if_neg h2, show x = 0 from by rw [i_eq, h0]; omega, Int32.add_zero]
set_option maxHeartbeats 4000000 in
set_option maxRecDepth 100000 in
theorem lp_ld (G : Gt) (m : Nat → Prop) (M0 : Nat → va_E) (Q : Qt) (S : MS)  (hC8 : Q.2.1 ≤ 8)  (Post : Option Value → MS → Prop) (K : PX G (CPic G m M0 Q) 2 Y11_lastDay 54 [some (.ref (Q.1 0 0)), some (.int (mLast S Q.2.1)), some (.ref (Q.1 8 0)), some (.int (nI 8)), some (.int (nI 8)), none] [] S 0 0 Post) : ∀ (kk i : Nat), i ≤ 8 → 9 ≤ i + kk → ∀ z : Option Value, PX G (CPic G m M0 Q) 2 Y11_lastDay 13 [some (.ref (Q.1 0 0)), some (.int (mLast S (min i Q.2.1))), some (.ref (Q.1 8 0)), some (.int (nI 8)), some (.int (nI i)), z] [] S 0 0 Post := by
  intro kk
  induction kk with
  | zero => intro i h1 h2; omega
  | succ kk ih =>
    intro i h1 h2 z
    refine px_iload dX11_lastDay_13 rfl ?_
    refine px_iload_n dX11_lastDay_15 rfl rfl ?_
    refine px_icmp_ge (tgt := 54) dX11_lastDay_16 (by decide) (fun H16 => ?_) (fun H16 => ?_)
    · skip
      have e8 : i = 8 := by have := ge_n (a := i) (b := 8) (by omega) (by omega) H16; omega
      subst e8
      rw [show min 8 Q.2.1 = Q.2.1 by omega]
      exact px_lw (ls' := [some (.ref (Q.1 0 0)), some (.int (mLast S Q.2.1)), some (.ref (Q.1 8 0)), some (.int (nI 8)), some (.int (nI 8)), none]) (by simp [LW]) K
    · skip
      have l8 : i < 8 := lt_n (a := i) (b := 8) (by omega) (by omega) H16
      refine px_aload_n dX11_lastDay_19 rfl rfl ?_
      refine px_iload dX11_lastDay_20 rfl ?_
      by_cases hcc : i < Q.2.1
      · skip
        have hst : min (i + 1) Q.2.1 = i + 1 := by omega
        have hs0 : min i Q.2.1 = i := by omega
        refine cx_aald (k := 8) (i := 0) (i) dX11_lastDay_22 rfl Nat.one_pos rfl rfl rfl (by omega) (by decide) (cr_pos hcc) ?_
        refine px_astore_5 dX11_lastDay_23 (by decide) rfl ?_
        refine px_aload dX11_lastDay_25 rfl ?_
        refine px_ifnull dX11_lastDay_27 ?_
        refine px_aload dX11_lastDay_30 rfl ?_
        refine cx_get (k := 33) (i := i) (f := 4) dX11_lastDay_32 (gk_X11_130 _) rfl (show i < Q.2.1 by omega) rfl ?_
        refine px_if_eq (tgt := 48) dX11_lastDay_35 (by decide) (fun H35 => ?_) (fun H35 => ?_)
        · skip
          refine px_iinc_4 (v := 1) dX11_lastDay_48 (by decide) (by decide) rfl ?_
          refine px_goto (tgt := 13) dX11_lastDay_51 (by decide) ?_
          rw [nI_1]
          refine px_lw (ls' := [some (.ref (Q.1 0 0)), some (.int (mLast S (min (i + 1) Q.2.1))), some (.ref (Q.1 8 0)), some (.int (nI 8)), some (.int (nI (i + 1))), none]) ?_ (ih (i + 1) (by omega) (by omega) none)
          first
          | (rw [hst]; simp [LW]; done)
          | (rw [hst, hs0]; simp [LW, mLast, jMax_l, *]; done)
        · skip
          refine px_iload_n dX11_lastDay_38 rfl rfl ?_
          refine px_aload dX11_lastDay_39 rfl ?_
          refine cx_get (k := 33) (i := i) (f := 6) dX11_lastDay_41 (gk_X11_313 _) rfl (show i < Q.2.1 by omega) rfl ?_
          refine px_pure2 dX11_lastDay_44 lX11_176 (c_J9_max_7cf53 G _ _) (by decide) (Nat.le_of_ble_eq_true rfl) ?_
          refine px_istore_n1 dX11_lastDay_47 (by decide) rfl ?_
          refine px_iinc_4 (v := 1) dX11_lastDay_48 (by decide) (by decide) rfl ?_
          refine px_goto (tgt := 13) dX11_lastDay_51 (by decide) ?_
          rw [nI_1]
          refine px_lw (ls' := [some (.ref (Q.1 0 0)), some (.int (mLast S (min (i + 1) Q.2.1))), some (.ref (Q.1 8 0)), some (.int (nI 8)), some (.int (nI (i + 1))), none]) ?_ (ih (i + 1) (by omega) (by omega) none)
          first
          | (rw [hst]; simp [LW]; done)
          | (rw [hst, hs0]; simp [LW, mLast, jMax_l, *]; done)
      · skip
        have hst : min (i + 1) Q.2.1 = min i Q.2.1 := by omega
        refine cx_aald (k := 8) (i := 0) (i) dX11_lastDay_22 rfl Nat.one_pos rfl rfl rfl (by omega) (by decide) (cr_neg hcc) ?_
        refine px_astoreN_5 dX11_lastDay_23 (by decide) rfl ?_
        refine px_aloadN dX11_lastDay_25 rfl ?_
        refine px_ifnullN (tgt := 48) dX11_lastDay_27 (by decide) ?_
        refine px_iinc_4 (v := 1) dX11_lastDay_48 (by decide) (by decide) rfl ?_
        refine px_goto (tgt := 13) dX11_lastDay_51 (by decide) ?_
        rw [nI_1]
        refine px_lw (ls' := [some (.ref (Q.1 0 0)), some (.int (mLast S (min (i + 1) Q.2.1))), some (.ref (Q.1 8 0)), some (.int (nI 8)), some (.int (nI (i + 1))), none]) ?_ (ih (i + 1) (by omega) (by omega) none)
        first
        | (rw [hst]; simp [LW]; done)
        | (rw [hst, hs0]; simp [LW, mLast, jMax_l, *]; done)
      -- end
set_option maxHeartbeats 4000000 in
set_option maxRecDepth 100000 in
theorem c_X11_lastDay (G : Gt) (m : Nat → Prop) (M0 : Nat → va_E) (Q : Qt) (S : MS)  (hC8 : Q.2.1 ≤ 8)  : PC G (CPic G m M0 Q) 2 Y11_lastDay [.ref (Q.1 0 0)] S 0 0 (ri (fun x S' => x = mLast S Q.2.1 ∧ S' = S)) := by
  refine pc_of (ls := [some (.ref (Q.1 0 0)), none, none, none, none, none]) (by decide +kernel) rfl (Nat.le_of_ble_eq_true rfl) ?_
  refine px_iconst (v := 0) dX11_lastDay_0 (by decide) ?_
  refine px_istore_n1 dX11_lastDay_1 (by decide) rfl ?_
  refine px_aload_n dX11_lastDay_2 rfl rfl ?_
  refine cx_get (k := 0) (i := 0) (f := 1) dX11_lastDay_3 gX11_18 rfl Nat.one_pos rfl ?_
  refine px_astore_n2 dX11_lastDay_6 (by decide) rfl ?_
  refine px_aload_n dX11_lastDay_7 rfl rfl ?_
  refine cx_alen (k := 8) (i := 0) (t := 3) (n := 0) (v := (nI 8)) dX11_lastDay_8 rfl Nat.one_pos rfl rfl ?_
  refine px_istore_n3 dX11_lastDay_9 (by decide) rfl ?_
  refine px_iconst (v := 0) dX11_lastDay_10 (by decide) ?_
  refine px_istore_4 dX11_lastDay_11 (by decide) rfl ?_
  refine px_lw (ls' := [some (.ref (Q.1 0 0)), some (.int (mLast S (min 0 Q.2.1))), some (.ref (Q.1 8 0)), some (.int (nI 8)), some (.int (nI 0)), none]) (by simp [LW, Nat.zero_min] <;> first | rfl | exact ⟨rfl, rfl⟩) (lp_ld G m M0 Q S  hC8 _ ?_ 9 0 (by omega) (by omega) none)
  refine px_iload_n dX11_lastDay_54 rfl rfl ?_
  refine px_iretI dX11_lastDay_55 rfl ?_
  exact ⟨rfl, rfl⟩
set_option maxHeartbeats 4000000 in
set_option maxRecDepth 100000 in
theorem lp_dc (G : Gt) (m : Nat → Prop) (M0 : Nat → va_E) (Q : Qt) (S : MS)  (hC8 : Q.2.1 ≤ 8)  (Post : Option Value → MS → Prop) (K : PX G (CPic G m M0 Q) 1 Y11_doneCount 47 [some (.ref (Q.1 0 0)), some (.int (mDoneS S Q.2.1)), some (.ref (Q.1 8 0)), some (.int (nI 8)), some (.int (nI 8)), none] [] S 0 0 Post) : ∀ (kk i : Nat), i ≤ 8 → 9 ≤ i + kk → ∀ z : Option Value, PX G (CPic G m M0 Q) 1 Y11_doneCount 13 [some (.ref (Q.1 0 0)), some (.int (mDoneS S (min i Q.2.1))), some (.ref (Q.1 8 0)), some (.int (nI 8)), some (.int (nI i)), z] [] S 0 0 Post := by
  intro kk
  induction kk with
  | zero => intro i h1 h2; omega
  | succ kk ih =>
    intro i h1 h2 z
    refine px_iload dX11_doneCount_13 rfl ?_
    refine px_iload_n dX11_doneCount_15 rfl rfl ?_
    refine px_icmp_ge (tgt := 47) dX11_doneCount_16 (by decide) (fun H16 => ?_) (fun H16 => ?_)
    · skip
      have e8 : i = 8 := by have := ge_n (a := i) (b := 8) (by omega) (by omega) H16; omega
      subst e8
      rw [show min 8 Q.2.1 = Q.2.1 by omega]
      exact px_lw (ls' := [some (.ref (Q.1 0 0)), some (.int (mDoneS S Q.2.1)), some (.ref (Q.1 8 0)), some (.int (nI 8)), some (.int (nI 8)), none]) (by simp [LW]) K
    · skip
      have l8 : i < 8 := lt_n (a := i) (b := 8) (by omega) (by omega) H16
      refine px_aload_n dX11_doneCount_19 rfl rfl ?_
      refine px_iload dX11_doneCount_20 rfl ?_
      by_cases hcc : i < Q.2.1
      · skip
        have hst : min (i + 1) Q.2.1 = i + 1 := by omega
        have hs0 : min i Q.2.1 = i := by omega
        refine cx_aald (k := 8) (i := 0) (i) dX11_doneCount_22 rfl Nat.one_pos rfl rfl rfl (by omega) (by decide) (cr_pos hcc) ?_
        refine px_astore_5 dX11_doneCount_23 (by decide) rfl ?_
        refine px_aload dX11_doneCount_25 rfl ?_
        refine px_ifnull dX11_doneCount_27 ?_
        refine px_aload dX11_doneCount_30 rfl ?_
        refine cx_get (k := 33) (i := i) (f := 4) dX11_doneCount_32 (gk_X11_130 _) rfl (show i < Q.2.1 by omega) rfl ?_
        refine px_if_eq (tgt := 41) dX11_doneCount_35 (by decide) (fun H35 => ?_) (fun H35 => ?_)
        · skip
          refine px_iinc_4 (v := 1) dX11_doneCount_41 (by decide) (by decide) rfl ?_
          refine px_goto (tgt := 13) dX11_doneCount_44 (by decide) ?_
          rw [nI_1]
          refine px_lw (ls' := [some (.ref (Q.1 0 0)), some (.int (mDoneS S (min (i + 1) Q.2.1))), some (.ref (Q.1 8 0)), some (.int (nI 8)), some (.int (nI (i + 1))), none]) ?_ (ih (i + 1) (by omega) (by omega) none)
          first
          | (rw [hst]; simp [LW]; done)
          | (rw [hst, hs0]; simp [LW, mDoneS, *]; done)
        · skip
          refine px_iinc_1 (v := 1) dX11_doneCount_38 (by decide) (by decide) rfl ?_
          refine px_iinc_4 (v := 1) dX11_doneCount_41 (by decide) (by decide) rfl ?_
          refine px_goto (tgt := 13) dX11_doneCount_44 (by decide) ?_
          rw [nI_1]
          refine px_lw (ls' := [some (.ref (Q.1 0 0)), some (.int (mDoneS S (min (i + 1) Q.2.1))), some (.ref (Q.1 8 0)), some (.int (nI 8)), some (.int (nI (i + 1))), none]) ?_ (ih (i + 1) (by omega) (by omega) none)
          first
          | (rw [hst]; simp [LW]; done)
          | (rw [hst, hs0]; simp [LW, mDoneS, *]; done)
      · skip
        have hst : min (i + 1) Q.2.1 = min i Q.2.1 := by omega
        refine cx_aald (k := 8) (i := 0) (i) dX11_doneCount_22 rfl Nat.one_pos rfl rfl rfl (by omega) (by decide) (cr_neg hcc) ?_
        refine px_astoreN_5 dX11_doneCount_23 (by decide) rfl ?_
        refine px_aloadN dX11_doneCount_25 rfl ?_
        refine px_ifnullN (tgt := 41) dX11_doneCount_27 (by decide) ?_
        refine px_iinc_4 (v := 1) dX11_doneCount_41 (by decide) (by decide) rfl ?_
        refine px_goto (tgt := 13) dX11_doneCount_44 (by decide) ?_
        rw [nI_1]
        refine px_lw (ls' := [some (.ref (Q.1 0 0)), some (.int (mDoneS S (min (i + 1) Q.2.1))), some (.ref (Q.1 8 0)), some (.int (nI 8)), some (.int (nI (i + 1))), none]) ?_ (ih (i + 1) (by omega) (by omega) none)
        first
        | (rw [hst]; simp [LW]; done)
        | (rw [hst, hs0]; simp [LW, mDoneS, *]; done)
      -- end
set_option maxHeartbeats 4000000 in
set_option maxRecDepth 100000 in
theorem c_X11_doneCount (G : Gt) (m : Nat → Prop) (M0 : Nat → va_E) (Q : Qt) (S : MS)  (hC8 : Q.2.1 ≤ 8)  : PC G (CPic G m M0 Q) 1 Y11_doneCount [.ref (Q.1 0 0)] S 0 0 (ri (fun x S' => x = mDoneS S Q.2.1 ∧ S' = S)) := by
  refine pc_of (ls := [some (.ref (Q.1 0 0)), none, none, none, none, none]) (by decide +kernel) rfl (Nat.le_of_ble_eq_true rfl) ?_
  refine px_iconst (v := 0) dX11_doneCount_0 (by decide) ?_
  refine px_istore_n1 dX11_doneCount_1 (by decide) rfl ?_
  refine px_aload_n dX11_doneCount_2 rfl rfl ?_
  refine cx_get (k := 0) (i := 0) (f := 1) dX11_doneCount_3 gX11_18 rfl Nat.one_pos rfl ?_
  refine px_astore_n2 dX11_doneCount_6 (by decide) rfl ?_
  refine px_aload_n dX11_doneCount_7 rfl rfl ?_
  refine cx_alen (k := 8) (i := 0) (t := 3) (n := 0) (v := (nI 8)) dX11_doneCount_8 rfl Nat.one_pos rfl rfl ?_
  refine px_istore_n3 dX11_doneCount_9 (by decide) rfl ?_
  refine px_iconst (v := 0) dX11_doneCount_10 (by decide) ?_
  refine px_istore_4 dX11_doneCount_11 (by decide) rfl ?_
  refine px_lw (ls' := [some (.ref (Q.1 0 0)), some (.int (mDoneS S (min 0 Q.2.1))), some (.ref (Q.1 8 0)), some (.int (nI 8)), some (.int (nI 0)), none]) (by simp [LW, Nat.zero_min] <;> first | rfl | exact ⟨rfl, rfl⟩) (lp_dc G m M0 Q S  hC8 _ ?_ 9 0 (by omega) (by omega) none)
  refine px_iload_n dX11_doneCount_47 rfl rfl ?_
  refine px_iretI dX11_doneCount_48 rfl ?_
  exact ⟨rfl, rfl⟩
theorem un4 {v : Int32} : mUnder v 4 = 1 ↔ v = 4 := by
  unfold mUnder
  rw [if_neg (by decide)]
  by_cases h : v = 4
  · rw [if_pos h]; simp [h]
  · rw [if_neg h, if_neg (fun e => absurd e.1 (by decide)), if_neg (fun e => absurd e.1 (by decide))]
    simp [h]
theorem iB_0 {b : Bool} : iB b = 0 ↔ b = false := by cases b <;> decide
set_option maxHeartbeats 4000000 in
set_option maxRecDepth 100000 in
theorem lp_lateC (G : Gt) (m : Nat → Prop) (M0 : Nat → va_E) (Q : Qt) (S : MS) (y : Int32) (hC8 : Q.2.1 ≤ 8) (hk : ∀ c, c < Q.2.1 → KO S c) : ∀ (kk i : Nat), i ≤ 8 → 9 ≤ i + kk → ∀ z z2 : Option Value, PX G (CPic G m M0 Q) 3 Y11_late 27 [some (.ref (Q.1 0 0)), some (.int y), some (.int (mLate S y (min i Q.2.1))), some (.ref (Q.1 8 0)), some (.int (nI 8)), some (.int (nI i)), z, z2] [] S 0 0 (ri (fun x S9 => x = mLate S y Q.2.1 ∧ S9 = S)) := by
  intro kk
  induction kk with
  | zero => intro i h1 h2; omega
  | succ kk ih =>
    intro i h1 h2 z z2
    refine px_iload dX11_late_27 rfl ?_
    refine px_iload dX11_late_29 rfl ?_
    refine px_icmp_ge (tgt := 70) dX11_late_31 (by decide) (fun H31 => ?_) (fun H31 => ?_)
    · skip
      have e8 : i = 8 := by have := ge_n (a := i) (b := 8) (by omega) (by omega) H31; omega
      subst e8
      rw [show min 8 Q.2.1 = Q.2.1 by omega]
      refine px_iload_n dX11_late_70 rfl rfl ?_
      refine px_iretI dX11_late_71 rfl ?_
      exact ⟨rfl, rfl⟩
    · skip
      have l8 : i < 8 := lt_n (a := i) (b := 8) (by omega) (by omega) H31
      refine px_aload_n dX11_late_34 rfl rfl ?_
      refine px_iload dX11_late_35 rfl ?_
      by_cases hcc : i < Q.2.1
      · skip
        have hst : min (i + 1) Q.2.1 = i + 1 := by omega
        have hs0 : min i Q.2.1 = i := by omega
        have hki := hk i hcc
        refine cx_aald (k := 8) (i := 0) (i) dX11_late_37 rfl Nat.one_pos rfl rfl rfl (by omega) (by decide) (cr_pos hcc) ?_
        refine px_astore_6 dX11_late_38 (by decide) rfl ?_
        refine px_aload dX11_late_40 rfl ?_
        refine cx_inst dX11_late_42 kl_232 hcc (isK_4 hki) ?_
        refine px_if_eq (tgt := 64) dX11_late_45 (by decide) (fun H45 => ?_) (fun H45 => ?_)
        · skip
          have n4 : ¬ S 7 i = 4 := fun e => by have h9 := iB_0.mp H45; rw [decide_eq_false_iff_not] at h9; exact h9 (un4.mpr e)
          refine px_iinc_5 (v := 1) dX11_late_64 (by decide) (by decide) rfl ?_
          refine px_goto (tgt := 27) dX11_late_67 (by decide) ?_
          rw [nI_1]
          refine px_lw (ls' := [some (.ref (Q.1 0 0)), some (.int y), some (.int (mLate S y (min (i + 1) Q.2.1))), some (.ref (Q.1 8 0)), some (.int (nI 8)), some (.int (nI (i + 1))), none, none]) ?_ (ih (i + 1) (by omega) (by omega) none none)
          first
          | (rw [hst, hs0, mLate, if_pos y4, show (if S 11 i = 0 then y else S 13 i) - S 9 i = mBy S y i from rfl, late_s]; simp [LW]; done)
          | (rw [hst, hs0, mLate, if_neg n4]; simp [LW]; done)
          | (rw [hst]; simp [LW]; done)
        · skip
          have y4 : S 7 i = 4 := by
            by_cases q : mUnder (S 7 i) 4 = 1
            · exact un4.mp q
            · exact absurd (by rw [decide_eq_false q]; rfl) H45
          refine px_aload dX11_late_48 rfl ?_
          refine cx_cast dX11_late_50 kl_232 hcc (by rw [y4]; exact Or.inl rfl) ?_
          refine px_astore_7 dX11_late_53 (by decide) rfl ?_
          refine px_iload_n dX11_late_55 rfl rfl ?_
          refine px_aload dX11_late_56 rfl ?_
          refine px_iload_n dX11_late_58 rfl rfl ?_
          refine cx_callI1 (k := 33) (i := i) dX11_late_59 lX11_234 rfl (show i < Q.2.1 by omega) (by rw [y4]; rfl) (c_X6_daysLate G m M0 Q S i y hcc y4) (by decide) (Nat.le_of_ble_eq_true rfl) (fun x59 S59 Q59 => ?_)
          obtain ⟨rfl, e59⟩ := Q59
          obtain rfl := e59.symm
          refine px_iadd dX11_late_62 ?_
          refine px_istore_n2 dX11_late_63 (by decide) rfl ?_
          refine px_iinc_5 (v := 1) dX11_late_64 (by decide) (by decide) rfl ?_
          refine px_goto (tgt := 27) dX11_late_67 (by decide) ?_
          rw [nI_1]
          refine px_lw (ls' := [some (.ref (Q.1 0 0)), some (.int y), some (.int (mLate S y (min (i + 1) Q.2.1))), some (.ref (Q.1 8 0)), some (.int (nI 8)), some (.int (nI (i + 1))), none, none]) ?_ (ih (i + 1) (by omega) (by omega) none none)
          first
          | (rw [hst, hs0, mLate, if_pos y4, show (if S 11 i = 0 then y else S 13 i) - S 9 i = mBy S y i from rfl, late_s]; simp [LW]; done)
          | (rw [hst, hs0, mLate, if_neg n4]; simp [LW]; done)
          | (rw [hst]; simp [LW]; done)
        -- end
      · skip
        have hst : min (i + 1) Q.2.1 = min i Q.2.1 := by omega
        refine cx_aald (k := 8) (i := 0) (i) dX11_late_37 rfl Nat.one_pos rfl rfl rfl (by omega) (by decide) (cr_neg hcc) ?_
        refine px_astoreN_6 dX11_late_38 (by decide) rfl ?_
        refine px_aloadN dX11_late_40 rfl ?_
        refine px_inst0 dX11_late_42 ?_
        refine px_if_eq (tgt := 64) dX11_late_45 (by decide) (fun H45 => ?_) (fun H45 => ?_)
        · skip
          refine px_iinc_5 (v := 1) dX11_late_64 (by decide) (by decide) rfl ?_
          refine px_goto (tgt := 27) dX11_late_67 (by decide) ?_
          rw [nI_1]
          refine px_lw (ls' := [some (.ref (Q.1 0 0)), some (.int y), some (.int (mLate S y (min (i + 1) Q.2.1))), some (.ref (Q.1 8 0)), some (.int (nI 8)), some (.int (nI (i + 1))), none, none]) ?_ (ih (i + 1) (by omega) (by omega) none none)
          first
          | (rw [hst, hs0, mLate, if_pos y4, show (if S 11 i = 0 then y else S 13 i) - S 9 i = mBy S y i from rfl, late_s]; simp [LW]; done)
          | (rw [hst, hs0, mLate, if_neg n4]; simp [LW]; done)
          | (rw [hst]; simp [LW]; done)
        · skip
          exact absurd rfl H45
        -- end
      -- end
set_option maxHeartbeats 4000000 in
set_option maxRecDepth 100000 in
theorem c_X11_late (G : Gt) (m : Nat → Prop) (M0 : Nat → va_E) (Q : Qt) (S : MS) (y : Int32) (n t : Nat) (hCH : CH S Q n t) : PC G (CPic G m M0 Q) 3 Y11_late [.ref (Q.1 0 0), .int y] S 0 0 (ri (fun x S' => x = f_late S y ∧ S' = S)) := by
  obtain ⟨hPH, hC, hC8, h60, h16, hOB⟩ := hCH
  have hn1 := hPH.1
  have hn6 := hPH.2.1
  have hTX := hPH.2.2.1
  have hWB := hPH.2.2.2.1
  have hco := hPH.2.2.2.2
  have ht := hTX.2.1
  have h6 := hTX.2.2.1
  have hRU : (S 60 0).toNatClampNeg = t := by rw [h60, nI_clamp (by omega)]
  have eN := hN_eq hn1 (by omega)
  have eC := cN_eq hC (by omega)
  refine pc_of (ls := [some (.ref (Q.1 0 0)), some (.int y), none, none, none, none, none, none]) (by decide +kernel) rfl (Nat.le_of_ble_eq_true rfl) ?_
  refine px_iload_n dX11_late_0 rfl rfl ?_
  refine px_iconst (v := 0) dX11_late_1 (by decide) ?_
  refine px_bipush (v := 99) dX11_late_2 (by decide) ?_
  refine px_pure3 dX11_late_4 lX11_81 (c_X11_isWithin G _ _ _) (by decide) (Nat.le_of_ble_eq_true rfl) ?_
  refine px_if_ne (tgt := 13) dX11_late_7 (by decide) (fun H7 => ?_) (fun H7 => ?_)
  · skip
    refine px_iconst (v := 0) dX11_late_13 (by decide) ?_
    refine px_istore_n2 dX11_late_14 (by decide) rfl ?_
    refine px_aload_n dX11_late_15 rfl rfl ?_
    refine cx_get (k := 0) (i := 0) (f := 1) dX11_late_16 gX11_18 rfl Nat.one_pos rfl ?_
    refine px_astore_n3 dX11_late_19 (by decide) rfl ?_
    refine px_aload_n dX11_late_20 rfl rfl ?_
    refine cx_alen (k := 8) (i := 0) (t := 3) (n := 0) (v := (nI 8)) dX11_late_21 rfl Nat.one_pos rfl rfl ?_
    refine px_istore_4 dX11_late_22 (by decide) rfl ?_
    refine px_iconst (v := 0) dX11_late_24 (by decide) ?_
    refine px_istore_5 dX11_late_25 (by decide) rfl ?_
    refine px_post (fun r S9 h9 => ?_) (px_lw (ls' := [some (.ref (Q.1 0 0)), some (.int y), some (.int (mLate S y (min 0 Q.2.1))), some (.ref (Q.1 8 0)), some (.int (nI 8)), some (.int (nI 0)), none, none]) (by simp [LW, Nat.zero_min] <;> first | rfl | exact ⟨rfl, rfl⟩) (lp_lateC G m M0 Q S y hC8 (fun c hc => (hco c hc).1) 9 0 (by omega) (by omega) none none))
    obtain ⟨x, rfl, e1, rfl⟩ := h9
    exact ⟨x, rfl, by rw [e1, f_late, if_neg H7, eC], rfl⟩
  · skip
    refine px_bipush (v := (-2)) dX11_late_10 (by decide) ?_
    refine px_iretI dX11_late_12 rfl ?_
    exact ⟨by simp [f_late, *], rfl⟩
theorem ft_k {S T : MS} {t : Nat} (h : fr [80 + t, 90 + t] S T) : fk S T := h.fk (by intro q hq; simp only [List.mem_cons, List.not_mem_nil, or_false] at hq; omega)
theorem ft_n {S T : MS} {t k : Nat} (h : fr [80 + t, 90 + t] S T) (h1 : k ≠ 80 + t) (h2 : k ≠ 90 + t) : T k = S k := h k (by simp only [List.mem_cons, List.not_mem_nil, or_false]; omega)
theorem CH.ft {S T : MS} {Q : Qt} {n t : Nat} (hCH : CH S Q n t) (h : fr [80 + t, 90 + t] S T) : CH T Q n t := by
  obtain ⟨a, b, c, d, e, f⟩ := hCH
  have hk := ft_k h
  have h6 := a.2.2.1.2.2.1
  have ht := a.2.2.1.2.1
  exact ⟨a.go hk (ft_n h (by omega) (by omega)) (ft_n h (by omega) (by omega)) (ft_n h (by omega) (by omega)), by rw [hk 6 (by decide)]; exact b, c, by rw [ft_n h (by omega) (by omega)]; exact d, by rw [hk 16 (by decide)]; exact e, fun x hx => by rw [hk 2 (by decide)]; exact f x hx⟩
set_option maxHeartbeats 4000000 in
set_option maxRecDepth 100000 in
theorem lp_kp (G : Gt) (m : Nat → Prop) (M0 : Nat → va_E) (Q : Qt) (S : MS) (n t : Nat) (hCH : CH S Q n t) : ∀ (kk i : Nat) (T : MS), fr [80 + t, 90 + t] S T → i ≤ 8 → 9 ≤ i + kk → ∀ z : Option Value, PX G (CPic G m M0 Q) 5 Y11_keptByInAll 13 [some (.ref (Q.1 0 0)), some (.int (mKS S (min i Q.2.1))), some (.ref (Q.1 8 0)), some (.int (nI 8)), some (.int (nI i)), z] [] T 0 0 (ri (fun x S9 => x = mKS S Q.2.1 ∧ fr [80 + t, 90 + t] S S9)) := by
  intro kk
  induction kk with
  | zero => intro i T hf h1 h2; omega
  | succ kk ih =>
    intro i T hf h1 h2 z
    have hCT := hCH.ft hf
    have hC8 := hCH.2.2.1
    have ht9 : t < 6 := by have := hCH.1.2.2.1.2.1; have := hCH.1.2.2.1.2.2.1; omega
    have hRU : (T 60 0).toNatClampNeg = t := by rw [hCT.2.2.2.1, nI_clamp (by omega)]
    refine px_iload dX11_keptByInAll_13 rfl ?_
    refine px_iload_n dX11_keptByInAll_15 rfl rfl ?_
    refine px_icmp_ge (tgt := 56) dX11_keptByInAll_16 (by decide) (fun H16 => ?_) (fun H16 => ?_)
    · skip
      have e8 : i = 8 := by have := ge_n (a := i) (b := 8) (by omega) (by omega) H16; omega
      subst e8
      rw [show min 8 Q.2.1 = Q.2.1 by omega]
      refine px_iload_n dX11_keptByInAll_56 rfl rfl ?_
      refine px_iretI dX11_keptByInAll_57 rfl ?_
      exact ⟨rfl, hf⟩
    · skip
      have l8 : i < 8 := lt_n (a := i) (b := 8) (by omega) (by omega) H16
      refine px_aload_n dX11_keptByInAll_19 rfl rfl ?_
      refine px_iload dX11_keptByInAll_20 rfl ?_
      by_cases hcc : i < Q.2.1
      · skip
        have hst : min (i + 1) Q.2.1 = i + 1 := by omega
        have hs0 : min i Q.2.1 = i := by omega
        have ht := hCT.1.2.2.1.2.1
        refine cx_aald (k := 8) (i := 0) (i) dX11_keptByInAll_22 rfl Nat.one_pos rfl rfl rfl (by omega) (by decide) (cr_pos hcc) ?_
        refine px_astore_5 dX11_keptByInAll_23 (by decide) rfl ?_
        refine px_aload dX11_keptByInAll_25 rfl ?_
        refine px_ifnull dX11_keptByInAll_27 ?_
        refine px_aload dX11_keptByInAll_30 rfl ?_
        refine cx_get (k := 33) (i := i) (f := 4) dX11_keptByInAll_32 (gk_X11_130 _) rfl (show i < Q.2.1 by omega) rfl ?_
        refine px_if_eq (tgt := 50) dX11_keptByInAll_35 (by decide) (fun H35 => ?_) (fun H35 => ?_)
        · skip
          rw [ft_k hf 11 (by decide)] at H35
          refine px_iinc_4 (v := 1) dX11_keptByInAll_50 (by decide) (by decide) rfl ?_
          refine px_goto (tgt := 13) dX11_keptByInAll_53 (by decide) ?_
          rw [nI_1]
          first
          | (refine px_lw (ls' := [some (.ref (Q.1 0 0)), some (.int (mKS S (min (i + 1) Q.2.1))), some (.ref (Q.1 8 0)), some (.int (nI 8)), some (.int (nI (i + 1))), none]) ?_ (ih (i + 1) S45 (hf.tr f45) (by omega) (by omega) none)
             rw [hst, hs0, mKS, if_neg H35]; simp [LW]; done)
          | (refine px_lw (ls' := [some (.ref (Q.1 0 0)), some (.int (mKS S (min (i + 1) Q.2.1))), some (.ref (Q.1 8 0)), some (.int (nI 8)), some (.int (nI (i + 1))), none]) ?_ (ih (i + 1) T hf (by omega) (by omega) none)
             rw [hst, hs0, mKS, if_pos H35, Int32.add_zero]; simp [LW]; done)
          | (refine px_lw (ls' := [some (.ref (Q.1 0 0)), some (.int (mKS S (min (i + 1) Q.2.1))), some (.ref (Q.1 8 0)), some (.int (nI 8)), some (.int (nI (i + 1))), none]) ?_ (ih (i + 1) T hf (by omega) (by omega) none)
             rw [hst]; simp [LW]; done)
        · skip
          rw [ft_k hf 11 (by decide)] at H35
          refine px_iload_n dX11_keptByInAll_38 rfl rfl ?_
          refine px_aload_n dX11_keptByInAll_39 rfl rfl ?_
          refine cx_get (k := 0) (i := 0) (f := 6) dX11_keptByInAll_40 gX11_65 rfl Nat.one_pos rfl ?_
          rw [hRU]
          refine px_aload dX11_keptByInAll_43 rfl ?_
          refine cx_callI1 (k := 28) (i := t) dX11_keptByInAll_45 lX11_126 rfl (show t < Q.2.2 by omega) rfl (c_X9_keepBy G m M0 Q T t i hCT.1.2.2.1 hcc (hCT.1.2.2.2.2 i hcc).1) (by decide) (Nat.le_of_ble_eq_true rfl) (fun x45 S45 Q45 => ?_)
          obtain ⟨rfl, f45⟩ := Q45
          rw [mKeep_k (ft_k hf)]
          refine px_iadd dX11_keptByInAll_48 ?_
          refine px_istore_n1 dX11_keptByInAll_49 (by decide) rfl ?_
          refine px_iinc_4 (v := 1) dX11_keptByInAll_50 (by decide) (by decide) rfl ?_
          refine px_goto (tgt := 13) dX11_keptByInAll_53 (by decide) ?_
          rw [nI_1]
          first
          | (refine px_lw (ls' := [some (.ref (Q.1 0 0)), some (.int (mKS S (min (i + 1) Q.2.1))), some (.ref (Q.1 8 0)), some (.int (nI 8)), some (.int (nI (i + 1))), none]) ?_ (ih (i + 1) S45 (hf.tr f45) (by omega) (by omega) none)
             rw [hst, hs0, mKS, if_neg H35]; simp [LW]; done)
          | (refine px_lw (ls' := [some (.ref (Q.1 0 0)), some (.int (mKS S (min (i + 1) Q.2.1))), some (.ref (Q.1 8 0)), some (.int (nI 8)), some (.int (nI (i + 1))), none]) ?_ (ih (i + 1) T hf (by omega) (by omega) none)
             rw [hst, hs0, mKS, if_pos H35, Int32.add_zero]; simp [LW]; done)
          | (refine px_lw (ls' := [some (.ref (Q.1 0 0)), some (.int (mKS S (min (i + 1) Q.2.1))), some (.ref (Q.1 8 0)), some (.int (nI 8)), some (.int (nI (i + 1))), none]) ?_ (ih (i + 1) T hf (by omega) (by omega) none)
             rw [hst]; simp [LW]; done)
      · skip
        have hst : min (i + 1) Q.2.1 = min i Q.2.1 := by omega
        refine cx_aald (k := 8) (i := 0) (i) dX11_keptByInAll_22 rfl Nat.one_pos rfl rfl rfl (by omega) (by decide) (cr_neg hcc) ?_
        refine px_astoreN_5 dX11_keptByInAll_23 (by decide) rfl ?_
        refine px_aloadN dX11_keptByInAll_25 rfl ?_
        refine px_ifnullN (tgt := 50) dX11_keptByInAll_27 (by decide) ?_
        refine px_iinc_4 (v := 1) dX11_keptByInAll_50 (by decide) (by decide) rfl ?_
        refine px_goto (tgt := 13) dX11_keptByInAll_53 (by decide) ?_
        rw [nI_1]
        first
        | (refine px_lw (ls' := [some (.ref (Q.1 0 0)), some (.int (mKS S (min (i + 1) Q.2.1))), some (.ref (Q.1 8 0)), some (.int (nI 8)), some (.int (nI (i + 1))), none]) ?_ (ih (i + 1) S45 (hf.tr f45) (by omega) (by omega) none)
           rw [hst, hs0, mKS, if_neg H35]; simp [LW]; done)
        | (refine px_lw (ls' := [some (.ref (Q.1 0 0)), some (.int (mKS S (min (i + 1) Q.2.1))), some (.ref (Q.1 8 0)), some (.int (nI 8)), some (.int (nI (i + 1))), none]) ?_ (ih (i + 1) T hf (by omega) (by omega) none)
           rw [hst, hs0, mKS, if_pos H35, Int32.add_zero]; simp [LW]; done)
        | (refine px_lw (ls' := [some (.ref (Q.1 0 0)), some (.int (mKS S (min (i + 1) Q.2.1))), some (.ref (Q.1 8 0)), some (.int (nI 8)), some (.int (nI (i + 1))), none]) ?_ (ih (i + 1) T hf (by omega) (by omega) none)
           rw [hst]; simp [LW]; done)
      -- end
set_option maxHeartbeats 4000000 in
set_option maxRecDepth 100000 in
theorem c_X11_keptByInAll (G : Gt) (m : Nat → Prop) (M0 : Nat → va_E) (Q : Qt) (S : MS) (n t : Nat) (hCH : CH S Q n t) : PC G (CPic G m M0 Q) 5 Y11_keptByInAll [.ref (Q.1 0 0)] S 0 0 (ri (fun x S' => x = mKS S Q.2.1 ∧ fr [80 + t, 90 + t] S S')) := by
  refine pc_of (ls := [some (.ref (Q.1 0 0)), none, none, none, none, none]) (by decide +kernel) rfl (Nat.le_of_ble_eq_true rfl) ?_
  refine px_iconst (v := 0) dX11_keptByInAll_0 (by decide) ?_
  refine px_istore_n1 dX11_keptByInAll_1 (by decide) rfl ?_
  refine px_aload_n dX11_keptByInAll_2 rfl rfl ?_
  refine cx_get (k := 0) (i := 0) (f := 1) dX11_keptByInAll_3 gX11_18 rfl Nat.one_pos rfl ?_
  refine px_astore_n2 dX11_keptByInAll_6 (by decide) rfl ?_
  refine px_aload_n dX11_keptByInAll_7 rfl rfl ?_
  refine cx_alen (k := 8) (i := 0) (t := 3) (n := 0) (v := (nI 8)) dX11_keptByInAll_8 rfl Nat.one_pos rfl rfl ?_
  refine px_istore_n3 dX11_keptByInAll_9 (by decide) rfl ?_
  refine px_iconst (v := 0) dX11_keptByInAll_10 (by decide) ?_
  refine px_istore_4 dX11_keptByInAll_11 (by decide) rfl ?_
  exact px_lw (ls' := [some (.ref (Q.1 0 0)), some (.int (mKS S (min 0 Q.2.1))), some (.ref (Q.1 8 0)), some (.int (nI 8)), some (.int (nI 0)), none]) (by simp [LW, Nat.zero_min] <;> first | rfl | exact ⟨rfl, rfl⟩) (lp_kp G m M0 Q S n t hCH 9 0 S fr.rf (by omega) (by omega) none)
set_option maxHeartbeats 4000000 in
set_option maxRecDepth 100000 in
theorem c_X11_count (G : Gt) (m : Nat → Prop) (M0 : Nat → va_E) (Q : Qt) (S : MS) (w : Int32) (n t : Nat) (hCH : CH S Q n t) : PC G (CPic G m M0 Q) 6 Y11_count [.ref (Q.1 0 0), .int w] S 0 0 (ri (fun x S' => x = f_count S w ∧ fr [80 + t, 90 + t] S S')) := by
  have hCH0 := hCH
  obtain ⟨hPH, hC, hC8, h60, h16, hOB⟩ := hCH
  have hn1 := hPH.1
  have hn6 := hPH.2.1
  have hTX := hPH.2.2.1
  have hWB := hPH.2.2.2.1
  have hco := hPH.2.2.2.2
  have ht := hTX.2.1
  have h6 := hTX.2.2.1
  have hRU : (S 60 0).toNatClampNeg = t := by rw [h60, nI_clamp (by omega)]
  have eN := hN_eq hn1 (by omega)
  have eC := cN_eq hC (by omega)
  refine pc_of (ls := [some (.ref (Q.1 0 0)), some (.int w)]) (by decide +kernel) rfl (Nat.le_of_ble_eq_true rfl) ?_
  refine px_iload_n dX11_count_0 rfl rfl ?_
  rcases sw_0_8 (w) with H1 | H1 | H1 | H1 | H1 | H1 | H1 | H1 | H1 | H1
  · refine px_tableIn (off := 51) (tgt := 52) dX11_count_1 (by rw [H1]; decide) (by rw [H1]; decide) (by rw [H1]; rfl) (by decide) ?_
    subst H1
    refine px_aload_n dX11_count_52 rfl rfl ?_
    refine cx_get (k := 0) (i := 0) (f := 0) dX11_count_53 gX11_10 rfl Nat.one_pos rfl ?_
    refine cx_get (k := 1) (i := 0) (f := 4) dX11_count_56 gX11_171 rfl Nat.one_pos rfl ?_
    refine px_iretI dX11_count_59 rfl ?_
    first | exact ⟨by simp [f_count, *], fr.rf⟩ | exact ⟨by simp [f_count, *], f97⟩
  · refine px_tableIn (off := 59) (tgt := 60) dX11_count_1 (by rw [H1]; decide) (by rw [H1]; decide) (by rw [H1]; rfl) (by decide) ?_
    subst H1
    refine px_aload_n dX11_count_60 rfl rfl ?_
    refine cx_get (k := 0) (i := 0) (f := 2) dX11_count_61 gX11_91 rfl Nat.one_pos rfl ?_
    refine px_iretI dX11_count_64 rfl ?_
    first | exact ⟨by simp [f_count, *], fr.rf⟩ | exact ⟨by simp [f_count, *], f97⟩
  · refine px_tableIn (off := 64) (tgt := 65) dX11_count_1 (by rw [H1]; decide) (by rw [H1]; decide) (by rw [H1]; rfl) (by decide) ?_
    subst H1
    refine px_aload_n dX11_count_65 rfl rfl ?_
    refine cx_callI0 (k := 0) (i := 0) dX11_count_66 lX11_250 rfl Nat.one_pos rfl (c_X11_doneCount G m M0 Q S hC8) (by decide) (Nat.le_of_ble_eq_true rfl) (fun x66 S66 Q66 => ?_)
    obtain ⟨rfl, e66⟩ := Q66
    obtain rfl := e66.symm
    refine px_iretI dX11_count_69 rfl ?_
    first | exact ⟨by simp [f_count, *], fr.rf⟩ | exact ⟨by simp [f_count, *], f97⟩
  · refine px_tableIn (off := 69) (tgt := 70) dX11_count_1 (by rw [H1]; decide) (by rw [H1]; decide) (by rw [H1]; rfl) (by decide) ?_
    subst H1
    refine px_aload_n dX11_count_70 rfl rfl ?_
    refine cx_get (k := 0) (i := 0) (f := 5) dX11_count_71 gX11_69 rfl Nat.one_pos rfl ?_
    refine px_iretI dX11_count_74 rfl ?_
    first | exact ⟨by simp [f_count, *], fr.rf⟩ | exact ⟨by simp [f_count, *], f97⟩
  · refine px_tableIn (off := 74) (tgt := 75) dX11_count_1 (by rw [H1]; decide) (by rw [H1]; decide) (by rw [H1]; rfl) (by decide) ?_
    subst H1
    refine px_aload_n dX11_count_75 rfl rfl ?_
    refine cx_get (k := 0) (i := 0) (f := 3) dX11_count_76 gX11_25 rfl Nat.one_pos rfl ?_
    refine cx_get (k := 9) (i := 0) (f := 1) dX11_count_79 gX11_140 rfl Nat.one_pos rfl ?_
    refine px_iretI dX11_count_82 rfl ?_
    first | exact ⟨by simp [f_count, *], fr.rf⟩ | exact ⟨by simp [f_count, *], f97⟩
  · refine px_tableIn (off := 82) (tgt := 83) dX11_count_1 (by rw [H1]; decide) (by rw [H1]; decide) (by rw [H1]; rfl) (by decide) ?_
    subst H1
    refine px_aload_n dX11_count_83 rfl rfl ?_
    refine cx_get (k := 0) (i := 0) (f := 7) dX11_count_84 gX11_153 rfl Nat.one_pos rfl ?_
    refine px_iretI dX11_count_87 rfl ?_
    first | exact ⟨by simp [f_count, *], fr.rf⟩ | exact ⟨by simp [f_count, *], f97⟩
  · refine px_tableIn (off := 87) (tgt := 88) dX11_count_1 (by rw [H1]; decide) (by rw [H1]; decide) (by rw [H1]; rfl) (by decide) ?_
    subst H1
    refine px_aload_n dX11_count_88 rfl rfl ?_
    refine cx_get (k := 0) (i := 0) (f := 0) dX11_count_89 gX11_10 rfl Nat.one_pos rfl ?_
    refine cx_callI0 (k := 1) (i := 0) dX11_count_92 lX11_215 rfl Nat.one_pos rfl (c_X10_ouncesInAll G m M0 Q S n hn1 hn6) (by decide) (Nat.le_of_ble_eq_true rfl) (fun x92 S92 Q92 => ?_)
    obtain ⟨rfl, e92⟩ := Q92
    obtain rfl := e92.symm
    refine px_iretI dX11_count_95 rfl ?_
    first | exact ⟨by simp [f_count, *], fr.rf⟩ | exact ⟨by simp [f_count, *], f97⟩
  · refine px_tableIn (off := 95) (tgt := 96) dX11_count_1 (by rw [H1]; decide) (by rw [H1]; decide) (by rw [H1]; rfl) (by decide) ?_
    subst H1
    refine px_aload_n dX11_count_96 rfl rfl ?_
    refine cx_callI0 (k := 0) (i := 0) dX11_count_97 lX11_257 rfl Nat.one_pos rfl (c_X11_keptByInAll G m M0 Q S n t hCH0) (by decide) (Nat.le_of_ble_eq_true rfl) (fun x97 S97 Q97 => ?_)
    obtain ⟨rfl, f97⟩ := Q97
    refine px_iretI dX11_count_100 rfl ?_
    first | exact ⟨by simp [f_count, *], fr.rf⟩ | exact ⟨by simp [f_count, *], f97⟩
  · refine px_tableIn (off := 100) (tgt := 101) dX11_count_1 (by rw [H1]; decide) (by rw [H1]; decide) (by rw [H1]; rfl) (by decide) ?_
    subst H1
    refine px_aload_n dX11_count_101 rfl rfl ?_
    refine cx_get (k := 0) (i := 0) (f := 0) dX11_count_102 gX11_10 rfl Nat.one_pos rfl ?_
    refine cx_callI0 (k := 1) (i := 0) dX11_count_105 lX11_260 rfl Nat.one_pos rfl (c_X10_hanksInBits G m M0 Q S n hn1 hn6) (by decide) (Nat.le_of_ble_eq_true rfl) (fun x105 S105 Q105 => ?_)
    obtain ⟨rfl, e105⟩ := Q105
    obtain rfl := e105.symm
    refine px_iretI dX11_count_108 rfl ?_
    first | exact ⟨by simp [f_count, *], fr.rf⟩ | exact ⟨by simp [f_count, *], f97⟩
  · refine px_tableOut (tgt := 109) dX11_count_1 H1 (by decide) ?_
    have N1_0 : ¬ w = 0 := by intro e9; rw [e9] at H1; revert H1; decide
    have N1_1 : ¬ w = 1 := by intro e9; rw [e9] at H1; revert H1; decide
    have N1_2 : ¬ w = 2 := by intro e9; rw [e9] at H1; revert H1; decide
    have N1_3 : ¬ w = 3 := by intro e9; rw [e9] at H1; revert H1; decide
    have N1_4 : ¬ w = 4 := by intro e9; rw [e9] at H1; revert H1; decide
    have N1_5 : ¬ w = 5 := by intro e9; rw [e9] at H1; revert H1; decide
    have N1_6 : ¬ w = 6 := by intro e9; rw [e9] at H1; revert H1; decide
    have N1_7 : ¬ w = 7 := by intro e9; rw [e9] at H1; revert H1; decide
    have N1_8 : ¬ w = 8 := by intro e9; rw [e9] at H1; revert H1; decide
    refine px_bipush (v := (-2)) dX11_count_109 (by decide) ?_
    refine px_iretI dX11_count_111 rfl ?_
    first | exact ⟨by simp [f_count, *], fr.rf⟩ | exact ⟨by simp [f_count, *], f97⟩
