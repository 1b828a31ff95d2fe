/-! THE CLASS: String.checkIndex -/
theorem fl_form : Cond.fieldLink RJ0 1053 "jdk/internal/util/Preconditions" "SIOOBE_FORMATTER" "Ljava/util/function/BiFunction;" ∈ tb := (tb_3 150 rfl rfl)
theorem ax_getsQ {G : Gt} {d : Nat} {Y : Yt} {pc : Nat} {ls : List (Option Value)} {st : List Value} {h : Ht} {mc ms : Nat} {Post : Option Value → Ht → Prop} {index : Nat} {C n dsc : String} (hd : decode Y.2.1 pc = .ok (.getstatic index, 3)) (hZ : ∀ U : State, GS G U → va_Zq C n dsc (gO G) U U.heap) (hl : Cond.fieldLink Y.1.cls index C n dsc ∈ tb) (kn : AX G d Y (pc + 3) ls (.null :: st) h mc ms Post) (kf : ∀ t : Nat, AX G d Y (pc + 3) ls (.ref t :: st) h mc ms Post) : AX G d Y pc ls st h mc ms Post := by
  intro p e R s m args below meth c Q H locs cells slots jl ac hp hS hlr hce hs kr
  rcases hZ s ac.gs with h9 | ⟨t, h9⟩
  · exact va_gets ac.1 ac.2.1 h9 hS ac.own (ac.hts _ hl) (fun _ h9 => h9) hd (kn p e R s m args below meth c Q H locs cells slots jl ac hp hS hlr hce hs kr)
  · exact va_gets ac.1 ac.2.1 h9 hS ac.own (ac.hts _ hl) (fun _ h9 => h9) hd (kf t p e R s m args below meth c Q H locs cells slots jl ac hp hS hlr hce hs kr)
theorem pv_ofF {G : Gt} {d : Nat} {Y : Yt} {av : List Value} {ls : List (Option Value)} (hy : plainFor Y.1 = true) (hls : enL av Y.2.2.1 = ls) (hlen : (lg_sl av).length ≤ Y.2.2.1) (k : ∀ h : Ht, PX G (fun (S : Ht) (h : Ht) => h = S) d Y 0 ls [] h 0 0 (rv (fun S' => S' = h))) : PV G d Y av :=
  fun h => cx_ofF hy hls hlen (ax_post (fun r h' hq => by obtain ⟨S', rfl, rfl, rfl⟩ := hq; exact ⟨rfl, rfl⟩) (k h h rfl))
set_option maxHeartbeats 400000 in
set_option maxRecDepth 100000 in
theorem c_ck_n (G : Gt) (k n : Nat) (hk : k < n) (hn : n ≤ 100000) : PS G 1 YJ3_checkIndex_8e157 [.int (nI k), .int (nI n), .null] (nI k) := by
  refine ps_ofpF (ls := [some (.int (nI k)), some (.int (nI n)), some (.null)]) (by decide +kernel) rfl (Nat.le_of_ble_eq_true rfl) (fun h => ?_)
  refine px_iload_n dJ3_checkIndex_8e157_0 rfl rfl ?_
  refine px_if_lt (tgt := 9) dJ3_checkIndex_8e157_1 (by decide) (fun H1 => absurd H1 (nI_nneg (by omega))) (fun H1 => ?_)
  refine px_iload_n dJ3_checkIndex_8e157_4 rfl rfl ?_
  refine px_iload_n dJ3_checkIndex_8e157_5 rfl rfl ?_
  refine px_icmp_lt (tgt := 16) dJ3_checkIndex_8e157_6 (by decide) (fun H6 => ?_) (fun H6 => absurd ((nI_ltI (by omega) (by omega)).mpr hk) H6)
  refine px_iload_n dJ3_checkIndex_8e157_16 rfl rfl ?_
  exact px_iretI dJ3_checkIndex_8e157_17 rfl ⟨rfl, rfl⟩
set_option maxHeartbeats 400000 in
set_option maxRecDepth 100000 in
theorem c_ck_r (G : Gt) (k n : Nat) (t : Nat) (hk : k < n) (hn : n ≤ 100000) : PS G 1 YJ3_checkIndex_8e157 [.int (nI k), .int (nI n), .ref t] (nI k) := by
  refine ps_ofpF (ls := [some (.int (nI k)), some (.int (nI n)), some (.ref t)]) (by decide +kernel) rfl (Nat.le_of_ble_eq_true rfl) (fun h => ?_)
  refine px_iload_n dJ3_checkIndex_8e157_0 rfl rfl ?_
  refine px_if_lt (tgt := 9) dJ3_checkIndex_8e157_1 (by decide) (fun H1 => absurd H1 (nI_nneg (by omega))) (fun H1 => ?_)
  refine px_iload_n dJ3_checkIndex_8e157_4 rfl rfl ?_
  refine px_iload_n dJ3_checkIndex_8e157_5 rfl rfl ?_
  refine px_icmp_lt (tgt := 16) dJ3_checkIndex_8e157_6 (by decide) (fun H6 => ?_) (fun H6 => absurd ((nI_ltI (by omega) (by omega)).mpr hk) H6)
  refine px_iload_n dJ3_checkIndex_8e157_16 rfl rfl ?_
  exact px_iretI dJ3_checkIndex_8e157_17 rfl ⟨rfl, rfl⟩
set_option maxHeartbeats 400000 in
set_option maxRecDepth 100000 in
theorem ck_i (G : Gt) : CKI G := by
  intro k n hk hn
  refine pv_ofF (ls := [some (.int (nI k)), some (.int (nI n))]) (by decide +kernel) rfl (Nat.le_of_ble_eq_true rfl) (fun h => ?_)
  refine px_iload_n dJ0_checkIndex_df160_0 rfl rfl ?_
  refine px_iload_n dJ0_checkIndex_df160_1 rfl rfl ?_
  intro h1 hp
  refine ax_getsQ dJ0_checkIndex_df160_2 (fun U hU => hU.c.2.2.2.2.2.2.2.1) fl_form ?_ (fun t => ?_)
  · refine (px_pure3 dJ0_checkIndex_df160_5 lJ0_1059 (c_ck_n G k n hk hn) (by decide) (Nat.le_of_ble_eq_true rfl) ?_ : PX G (fun (S : Ht) (h : Ht) => h = S) _ _ _ _ _ _ _ _ _) h1 hp
    refine px_pop dJ0_checkIndex_df160_8 rfl ?_
    exact px_return dJ0_checkIndex_df160_9 rfl rfl
  · refine (px_pure3 dJ0_checkIndex_df160_5 lJ0_1059 (c_ck_r G k n t hk hn) (by decide) (Nat.le_of_ble_eq_true rfl) ?_ : PX G (fun (S : Ht) (h : Ht) => h = S) _ _ _ _ _ _ _ _ _) h1 hp
    refine px_pop dJ0_checkIndex_df160_8 rfl ?_
    exact px_return dJ0_checkIndex_df160_9 rfl rfl
