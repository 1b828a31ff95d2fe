/-! THE CLASS: String constants -/
theorem GS.c {G : Gt} {U : State} (h : GS G U) : GSc G U := h.2.2.2.2.2.2.2.2
def kLen (i : Nat) : Nat := [59, 8].getD i 0
def kByt (i j : Nat) : Int32 := ([btWords, btSigns].getD i []).getD j 0
section STr
variable {G : Gt} {d : Nat} {Y : Yt} {pc : Nat} {ls : List (Option Value)} {st : List Value} {h : Ht} {mc ms : Nat} {Post : Option Value → Ht → Prop}
theorem ax_ldcK {tx : String} {index q : Nat} (hd : decode Y.2.1 pc = .ok (.ldc index, 2)) (hR : ∀ U : State, GS G U → vk_R Y.1.cls index tx q U) (kk : AX G d Y (pc + 2) ls (.ref q :: st) h mc ms Post) : AX G d Y pc ls st h mc ms Post :=
  fun p e R s m args below meth c Q H locs cells slots jl ac hp hS hlr hce hs kr => va_ldcS ac.1 ac.2.1 ac.own (hR s ac.gs) hd (kk p e R s m args below meth c Q H locs cells slots jl ac hp hS hlr hce hs kr)
theorem ax_getK {n dsc : String} {index q : Nat} {v : Value} (hd : decode Y.2.1 pc = .ok (.getfield index, 3)) (hl : Cond.fieldLink Y.1.cls index "java/lang/String" n dsc ∈ tb) (hE : ∀ U : State, GS G U → va_OF "java/lang/String" n dsc v q (gO G) U U.heap) (kk : AX G d Y (pc + 3) ls (v :: st) h mc ms Post) : AX G d Y pc ls (.ref q :: st) h mc ms Post :=
  fun p e R s m args below meth c Q H locs cells slots jl ac hp hS hlr hce hs kr => vk_getf ac.1 ac.2.1 (hE s ac.gs) hS ac.own (ac.hts _ hl) (fun _ h9 => h9) hd (kk p e R s m args below meth c Q H locs cells slots jl ac hp hS hlr hce hs kr)
theorem ax_caldB {a N : Nat} {f : Nat → Value} {i : Int32} {v : Value} (hd : decode Y.2.1 pc = .ok (.baload, 1)) (hT : ∀ U : State, GS G U → va_T .byte a N f (gO G) U U.heap) (hin : vp_in i N) (hv : f i.toNatClampNeg = v) (kk : AX G d Y (pc + 1) ls (v :: st) h mc ms Post) : AX G d Y pc ls (.int i :: .ref a :: st) h mc ms Post :=
  fun p e R s m args below meth c Q H locs cells slots jl ac hp hS hlr hce hs kr => va_tb ac.1 ac.2.1 (hT s ac.gs) hS hin hv hd (kk p e R s m args below meth c Q H locs cells slots jl ac hp hS hlr hce hs kr)
theorem ax_clen {ty : FieldType} {a N : Nat} {f : Nat → Value} {v : Int32} (hd : decode Y.2.1 pc = .ok (.arraylength, 1)) (hT : ∀ U : State, GS G U → va_T ty a N f (gO G) U U.heap) (hv : Int32.ofNat N = v) (kk : AX G d Y (pc + 1) ls (.int v :: st) h mc ms Post) : AX G d Y pc ls (.ref a :: st) h mc ms Post :=
  fun p e R s m args below meth c Q H locs cells slots jl ac hp hS hlr hce hs kr => va_tlen ac.1 ac.2.1 (hT s ac.gs) hS hv hd (kk p e R s m args below meth c Q H locs cells slots jl ac hp hS hlr hce hs kr)
theorem ax_callK {d1 index n i mc1 ms1 : Nat} {av st0 : List Value} {Y' : Yt} {Post1 : Option Value → Ht → Prop} (hi : i < 2) (hd : decode Y.2.1 pc = .ok (.invokevirtual index, 3)) (hl : cLLV Y.1.cls index Y' n) (hcls : Y'.1.cls = "java/lang/String") (hn : av.length = n) (hst : st0 = av.reverse ++ .ref (gA G (3 + i)) :: st) (hdd : d1 + 1 ≤ d) (hcat : (st.map fun v => v.category).sum ≤ 8) (hC : CX G d1 Y' (.ref (gA G (3 + i)) :: av) h mc1 ms1 Post1) (kk : ∀ r h', Post1 r h' → AX G d Y (pc + 3) ls (r.toList ++ st) h' mc ms Post) : AX G d Y pc ls st0 h (mc1 + mc) (ms1 + ms) Post := by
  intro p e R s m args below meth c Q H locs cells slots jl ac hp hS hlr hce hs kr
  obtain ⟨hY, l1, l2, l3, l4⟩ := hl
  refine w_run (va_runV (C := Y'.1.cls) (As := av) (rest := st) (nL := Y.2.2.1) (Ts := tb) ⟨ac.1, ac.2.1, ac.2.2.2.1, ac.own, ac.hts⟩ hC ⟨callB_of n ac.hts (yW_good hY.1) rfl rfl rfl (ac.hts _ l4) (ac.hts _ l1) hY.2.1 (cx_room ac hdd hY), ac.hts _ l2, ac.hts _ l3⟩ ⟨cx_blind, (by rw [hcls]; exact vk_recv (adK := fun j => gA G (3 + j)) (i := i) (ac.gs.c.2.2.2.2.2.2.1) hi hS), cx_pre ac hp hS⟩ rfl hn hlr.1 hst (lv_room hcat) hd ⟨by omega, by omega⟩) hS (fun r h' H1 locs1 q1 q2 q3 => ?_)
  exact kk r h' q1 p e R s m args below meth c Q H1 locs1 _ _ jl ac q2 q3 hlr (by omega) (by omega) (fun r h' H' locs' cells' slots' pc' jl' hpo hp' hS' c1 c2 => kr r h' H' locs' cells' slots' pc' jl' hpo hp' hS' (by omega) (by omega))
end STr
section STp
variable {σ : Type} {Pic : σ → Ht → Prop} {G : Gt} {d : Nat} {Y : Yt} {pc : Nat} {ls : List (Option Value)} {st : List Value} {S : σ} {mc ms : Nat} {Post : Option Value → σ → Prop}
theorem px_words {index : Nat} (hd : decode Y.2.1 pc = .ok (.ldc index, 2)) (hY : Y.1.cls = RX7) (hix : index = 121) (kk : PX G Pic d Y (pc + 2) ls (.ref (gA G 3) :: st) S mc ms Post) : PX G Pic d Y pc ls st S mc ms Post :=
  fun h hp => ax_ldcK hd (fun U hU => by rw [hY, hix]; exact hU.c.2.2.2.2.1) (kk h hp)
theorem px_signs {index : Nat} (hd : decode Y.2.1 pc = .ok (.ldc index, 2)) (hY : Y.1.cls = RX7) (hix : index = 113) (kk : PX G Pic d Y (pc + 2) ls (.ref (gA G 4) :: st) S mc ms Post) : PX G Pic d Y pc ls st S mc ms Post :=
  fun h hp => ax_ldcK hd (fun U hU => by rw [hY, hix]; exact hU.c.2.2.2.2.2.1) (kk h hp)
theorem px_compact {index : Nat} (hd : decode Y.2.1 pc = .ok (.getstatic index, 3)) (hl : Cond.fieldLink Y.1.cls index "java/lang/String" "COMPACT_STRINGS" "Z" ∈ tb) (kk : PX G Pic d Y (pc + 3) ls (.int 1 :: st) S mc ms Post) : PX G Pic d Y pc ls st S mc ms Post :=
  fun h hp => ax_gets hd (fun U hU => hU.c.2.2.2.1) hl (kk h hp)
theorem px_kcoder {index i : Nat} (hi : i < 2) (hd : decode Y.2.1 pc = .ok (.getfield index, 3)) (hl : Cond.fieldLink Y.1.cls index "java/lang/String" "coder" "B" ∈ tb) (kk : PX G Pic d Y (pc + 3) ls (.int 0 :: st) S mc ms Post) : PX G Pic d Y pc ls (.ref (gA G (3 + i)) :: st) S mc ms Post :=
  fun h hp => ax_getK hd hl (fun U hU => (hU.c.2.2.2.2.2.2.1.1 i hi).2.1) (kk h hp)
theorem px_kvalue {index i : Nat} (hi : i < 2) (hd : decode Y.2.1 pc = .ok (.getfield index, 3)) (hl : Cond.fieldLink Y.1.cls index "java/lang/String" "value" "[B" ∈ tb) (kk : PX G Pic d Y (pc + 3) ls (.ref (gA G (5 + i)) :: st) S mc ms Post) : PX G Pic d Y pc ls (.ref (gA G (3 + i)) :: st) S mc ms Post :=
  fun h hp => ax_getK hd hl (fun U hU => (hU.c.2.2.2.2.2.2.1.1 i hi).2.2.1) (kk h hp)
theorem px_klen {i : Nat} (hi : i < 2) (hd : decode Y.2.1 pc = .ok (.arraylength, 1)) (kk : PX G Pic d Y (pc + 1) ls (.int (nI (kLen i)) :: st) S mc ms Post) : PX G Pic d Y pc ls (.ref (gA G (5 + i)) :: st) S mc ms Post :=
  fun h hp => ax_clen hd (fun U hU => (hU.c.2.2.2.2.2.2.1.1 i hi).2.2.2) rfl (kk h hp)
theorem kLen_le {i : Nat} : kLen i ≤ 59 := by
  unfold kLen
  rcases i with _ | _ | i
  · decide
  · decide
  · simp
theorem px_kbyte {i : Nat} {x : Int32} (n0 : Nat) (hi : i < 2) (hd : decode Y.2.1 pc = .ok (.baload, 1)) (hx : x = nI n0) (hlt : n0 < kLen i) (kk : PX G Pic d Y (pc + 1) ls (.int (kByt i n0) :: st) S mc ms Post) : PX G Pic d Y pc ls (.int x :: .ref (gA G (5 + i)) :: st) S mc ms Post :=
  fun h hp => ax_caldB hd (fun U hU => (hU.c.2.2.2.2.2.2.1.1 i hi).2.2.2) (by rw [hx]; exact vp_in_nI (show n0 < kLen i from hlt) (show kLen i < 2 ^ 31 by have := kLen_le (i := i); omega)) (by show Value.int (([btWords, btSigns].getD i []).getD _ 0) = _; rw [hx, nI_clamp (by have := kLen_le (i := i); omega)]; rfl) (kk h hp)
theorem px_kcall {d1 index n i : Nat} {av st0 : List Value} {Y' : Yt} {x : Int32} (hi : i < 2) (hd : decode Y.2.1 pc = .ok (.invokevirtual index, 3)) (hl : cLLV Y.1.cls index Y' n) (hcls : Y'.1.cls = "java/lang/String") (hn : av.length = n) (hst : st0 = av.reverse ++ .ref (gA G (3 + i)) :: st) (hC : PS G d1 Y' (.ref (gA G (3 + i)) :: av) x) (hdd : d1 + 1 ≤ d) (hcat : (st.map fun v => v.category).sum ≤ 8) (kk : PX G Pic d Y (pc + 3) ls (.int x :: st) S mc ms Post) : PX G Pic d Y pc ls st0 S mc ms Post :=
  fun h hp => ax_budget (Nat.le_of_eq (Nat.zero_add mc)) (Nat.le_of_eq (Nat.zero_add ms)) (ax_callK hi hd hl hcls hn hst hdd hcat (hC h) (fun r h' hq => by obtain ⟨rfl, rfl⟩ := hq; exact kk h' hp))
theorem px_iretT {P : Int32 → σ → Prop} {v : Int32} {ty : FieldType} (hd : decode Y.2.1 pc = .ok (.ireturn, 1)) (hr : Y.2.2.2 = some ty) (hn : narrow ty (.int v) = .int v) (hq : P v S) : PX G Pic d Y pc ls [.int v] S mc ms (ri P) := fun h hp => ax_ireturn hd hr hn ⟨S, hp, ⟨v, rfl, hq⟩⟩
end STp
theorem fl_value : Cond.fieldLink RJ0 9 "java/lang/String" "value" "[B" ∈ tb := (tb_7 54 rfl rfl)
theorem fl_coder : Cond.fieldLink RJ0 15 "java/lang/String" "coder" "B" ∈ tb := (tb_7 55 rfl rfl)
theorem fl_compact : Cond.fieldLink RJ0 38 "java/lang/String" "COMPACT_STRINGS" "Z" ∈ tb := (tb_3 134 rfl rfl)
theorem lJ0_335 : cLLV RJ0 335 YJ0_coder_7d493 0 := ⟨yc_J0_coder_7d493, (tb_3 130 rfl rfl), (tb_3 131 rfl rfl), (tb_3 132 rfl rfl), (tb_1 15 rfl rfl)⟩
theorem lJ0_492 : cLLV RJ0 492 YJ0_isLatin1_aae02 0 := ⟨yc_J0_isLatin1_aae02, (tb_3 140 rfl rfl), (tb_3 141 rfl rfl), (tb_3 142 rfl rfl), (tb_1 15 rfl rfl)⟩
theorem lJ0_495 : cLLS RJ0 495 YJ1_charAt_3b067 2 := ⟨yc_J1_charAt_3b067, (tb_3 144 rfl rfl), (tb_3 145 rfl rfl), (tb_1 16 rfl rfl)⟩
theorem lJ1_9 : cLLS RJ1 9 YJ0_checkIndex_df160 2 := ⟨yc_J0_checkIndex_df160, (tb_3 147 rfl rfl), (tb_3 148 rfl rfl), (tb_1 15 rfl rfl)⟩
theorem lJ0_633 : cLLV RJ0 633 YJ0_indexOf_7cf53 2 := ⟨yc_J0_indexOf_7cf53, (tb_3 183 rfl rfl), (tb_3 184 rfl rfl), (tb_3 185 rfl rfl), (tb_1 15 rfl rfl)⟩
theorem lJ0_505 : cLLV RJ0 505 YJ0_length_8abf5 0 := ⟨yc_J0_length_8abf5, (tb_3 187 rfl rfl), (tb_3 127 rfl rfl), (tb_3 128 rfl rfl), (tb_1 15 rfl rfl)⟩
theorem lJ0_637 : cLLS RJ0 637 YJ1_indexOf_4cfef 4 := ⟨yc_J1_indexOf_4cfef, (tb_3 188 rfl rfl), (tb_3 189 rfl rfl), (tb_1 16 rfl rfl)⟩
theorem lJ1_88 : cLLS RJ1 88 YJ1_canEncode_9a6ad 1 := ⟨yc_J1_canEncode_9a6ad, (tb_3 191 rfl rfl), (tb_3 192 rfl rfl), (tb_1 16 rfl rfl)⟩
theorem lJ1_92 : cLLS RJ1 92 YJ9_max_7cf53 2 := ⟨yc_J9_max_7cf53, (tb_3 194 rfl rfl), (tb_3 10 rfl rfl), (tb_1 14 rfl rfl)⟩
theorem lJ1_38 : cLLS RJ1 38 YJ9_min_7cf53 2 := ⟨yc_J9_min_7cf53, (tb_3 195 rfl rfl), (tb_3 39 rfl rfl), (tb_1 14 rfl rfl)⟩
theorem lJ1_95 : cLLS RJ1 95 YJ1_indexOfChar_4cfef 4 := ⟨yc_J1_indexOfChar_4cfef, (tb_3 196 rfl rfl), (tb_3 197 rfl rfl), (tb_1 16 rfl rfl)⟩
theorem lJ0_1059 : cLLS RJ0 1059 YJ3_checkIndex_8e157 3 := ⟨yc_J3_checkIndex_8e157, (tb_3 152 rfl rfl), (tb_3 153 rfl rfl), (tb_1 17 rfl rfl)⟩
set_option maxHeartbeats 400000 in
set_option maxRecDepth 100000 in
theorem c_J0_coder_7d493 (G : Gt) (i : Nat) (hi : i < 2) : PS G 1 YJ0_coder_7d493 [.ref (gA G (3 + i))] 0 := by
  refine ps_ofpF (ls := [some (.ref (gA G (3 + i)))]) (by decide +kernel) rfl (Nat.le_of_ble_eq_true rfl) (fun h => ?_)
  refine px_compact dJ0_coder_7d493_0 fl_compact ?_
  refine px_if_eq (tgt := 13) dJ0_coder_7d493_3 (by decide) (fun H3 => absurd H3 (by decide)) (fun H3 => ?_)
  refine px_aload_n dJ0_coder_7d493_6 rfl rfl ?_
  refine px_kcoder hi dJ0_coder_7d493_7 fl_coder ?_
  refine px_goto (tgt := 14) dJ0_coder_7d493_10 (by decide) ?_
  exact px_iretT dJ0_coder_7d493_14 rfl rfl ⟨rfl, rfl⟩
set_option maxHeartbeats 400000 in
set_option maxRecDepth 100000 in
theorem c_J0_isLatin1_aae02 (G : Gt) (i : Nat) (hi : i < 2) : PS G 1 YJ0_isLatin1_aae02 [.ref (gA G (3 + i))] 1 := by
  refine ps_ofpF (ls := [some (.ref (gA G (3 + i)))]) (by decide +kernel) rfl (Nat.le_of_ble_eq_true rfl) (fun h => ?_)
  refine px_compact dJ0_isLatin1_aae02_0 fl_compact ?_
  refine px_if_eq (tgt := 17) dJ0_isLatin1_aae02_3 (by decide) (fun H3 => absurd H3 (by decide)) (fun H3 => ?_)
  refine px_aload_n dJ0_isLatin1_aae02_6 rfl rfl ?_
  refine px_kcoder hi dJ0_isLatin1_aae02_7 fl_coder ?_
  refine px_if_ne (tgt := 17) dJ0_isLatin1_aae02_10 (by decide) (fun H10 => absurd rfl H10) (fun H10 => ?_)
  refine px_iconst (v := 1) dJ0_isLatin1_aae02_13 (by decide) ?_
  refine px_goto (tgt := 18) dJ0_isLatin1_aae02_14 (by decide) ?_
  exact px_iretT dJ0_isLatin1_aae02_18 rfl rfl ⟨rfl, rfl⟩
set_option maxHeartbeats 400000 in
set_option maxRecDepth 100000 in
theorem c_J0_length_8abf5 (G : Gt) (i : Nat) (hi : i < 2) : PS G 2 YJ0_length_8abf5 [.ref (gA G (3 + i))] (nI (kLen i)) := by
  refine ps_ofpF (ls := [some (.ref (gA G (3 + i)))]) (by decide +kernel) rfl (Nat.le_of_ble_eq_true rfl) (fun h => ?_)
  refine px_aload_n dJ0_length_8abf5_0 rfl rfl ?_
  refine px_kvalue hi dJ0_length_8abf5_1 fl_value ?_
  refine px_klen hi dJ0_length_8abf5_4 ?_
  refine px_aload_n dJ0_length_8abf5_5 rfl rfl ?_
  refine px_kcall (av := []) hi dJ0_length_8abf5_6 lJ0_335 rfl rfl rfl (c_J0_coder_7d493 G i hi) (by decide) (Nat.le_of_ble_eq_true rfl) ?_
  refine px_ishr dJ0_length_8abf5_9 ?_
  refine px_iretI dJ0_length_8abf5_10 rfl ⟨?_, rfl⟩
  rcases (by omega : i = 0 ∨ i = 1) with rfl | rfl <;> decide
set_option maxHeartbeats 400000 in
set_option maxRecDepth 100000 in
theorem c_J1_canEncode_9a6ad (G : Gt) (v : Int32)  : PS G 1 YJ1_canEncode_9a6ad [.int v] (mIn v 0 255) := by
  refine ps_ofpF (ls := [some (.int v)]) (by decide +kernel) rfl (Nat.le_of_ble_eq_true rfl) (fun h => ?_)
  refine px_iload_n dJ1_canEncode_9a6ad_0 rfl rfl ?_
  refine px_if_lt (tgt := 15) dJ1_canEncode_9a6ad_1 (by decide) (fun H1 => ?_) (fun H1 => ?_)
  · skip
    refine px_iconst (v := 0) dJ1_canEncode_9a6ad_15 (by decide) ?_
    refine px_iretZ dJ1_canEncode_9a6ad_16 rfl (by first | rfl | decide) ?_
    exact ⟨by first | rfl | (simp [mIn, *]; done) | (simp_all [mIn]; done), rfl⟩
  · skip
    refine px_iload_n dJ1_canEncode_9a6ad_4 rfl rfl ?_
    refine px_sipush (v := 255) dJ1_canEncode_9a6ad_5 (by decide) ?_
    refine px_icmp_gt (tgt := 15) dJ1_canEncode_9a6ad_8 (by decide) (fun H8 => ?_) (fun H8 => ?_)
    · skip
      refine px_iconst (v := 0) dJ1_canEncode_9a6ad_15 (by decide) ?_
      refine px_iretZ dJ1_canEncode_9a6ad_16 rfl (by first | rfl | decide) ?_
      exact ⟨by first | rfl | (simp [mIn, *]; done) | (simp_all [mIn]; done), rfl⟩
    · skip
      refine px_iconst (v := 1) dJ1_canEncode_9a6ad_11 (by decide) ?_
      refine px_goto (tgt := 16) dJ1_canEncode_9a6ad_12 (by decide) ?_
      refine px_iretZ dJ1_canEncode_9a6ad_16 rfl (by first | rfl | decide) ?_
      exact ⟨by first | rfl | (simp [mIn, *]; done) | (simp_all [mIn]; done), rfl⟩
