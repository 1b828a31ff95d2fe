/-! THE CLASS: rows over the bare heap; coats that come -/
theorem ci_i : Cond.instanceMethod Lib.objectInit ∈ tb := (tb_1 28 rfl rfl)
theorem ci_c : Cond.code Lib.objectInit ⟨#[0xb1]⟩ 1 none ∈ tb := (tb_1 29 rfl rfl)
theorem ol_2 : Cond.methodLink RX2 3 Lib.objectInit ∈ tb := (tb_2 63 rfl rfl)
theorem ol_3 : Cond.methodLink RX3 3 Lib.objectInit ∈ tb := (tb_1 118 rfl rfl)
theorem ol_5 : Cond.methodLink RX5 3 Lib.objectInit ∈ tb := (tb_1 165 rfl rfl)
theorem ol_7 : Cond.methodLink RX7 5 Lib.objectInit ∈ tb := (tb_1 76 rfl rfl)
theorem ol_9 : Cond.methodLink RX9 3 Lib.objectInit ∈ tb := (tb_1 201 rfl rfl)
theorem ol_10 : Cond.methodLink RX10 3 Lib.objectInit ∈ tb := (tb_1 35 rfl rfl)
theorem ol_11 : Cond.methodLink RX11 1 Lib.objectInit ∈ tb := (tb_1 27 rfl rfl)
theorem ol_12 : Cond.methodLink RX12 1 Lib.objectInit ∈ tb := (tb_5 68 rfl rfl)
abbrev EP : Ht → Ht → Prop := fun S h => h = S
theorem va_up_up {α : Type} (f : Nat → α) (k : Nat) (v w : α) : va_up (va_up f k v) k w = va_up f k w := by
  funext q
  by_cases e : q = k
  · subst e; rw [va_up_self, va_up_self]
  · rw [va_up_ne _ _ e, va_up_ne _ _ e, va_up_ne _ _ e]
section EXr
variable {G : Gt} {d : Nat} {Y : Yt} {pc : Nat} {ls : List (Option Value)} {st : List Value} {S : Ht} {mc ms : Nat} {Post : Option Value → Ht → Prop}
theorem ex_new {index ci N : Nat} {fs : List Value} (hd : decode Y.2.1 pc = .ok (.new index, 3)) (hw : NW Y.1.cls index ci fs N) (kk : PX G EP d Y (pc + 3) ls (.ref S.1 :: st) (S.1 + 1, va_up S.2 S.1 (.inr (ci, fs))) mc ms Post) : PX G EP d Y pc ls st S (mc + 1) (ms + N) Post := by
  intro h hp
  obtain rfl := hp.symm
  exact ax_new hd hw (kk _ rfl)
theorem ex_putF {index ci k a : Nat} {ty : FieldType} {fs : List Value} {v : Value} (hd : decode Y.2.1 pc = .ok (.putfield index, 3)) (hg : GI Y.1.cls index ci k ty) (hi0 : Y.1.name = "<init>") (hB : gB G ≤ a) (hn : a < S.1) (hc : S.2 a = .inr (ci, fs)) (hk0 : k < fs.length) (hnv : narrow ty v = v) (hfit : fits ty v = true) (kk : PX G EP d Y (pc + 3) ls st (S.1, va_up S.2 a (.inr (ci, fs.set k v))) mc ms Post) : PX G EP d Y pc ls (v :: .ref a :: st) S mc ms Post := by
  intro h hp
  obtain rfl := hp.symm
  exact ax_putF hd hg hi0 hB hn hc hk0 hnv hfit (kk _ rfl)
theorem ex_obj {index a : Nat} (hd : decode Y.2.1 pc = .ok (.invokespecial index, 3)) (hd1 : 1 ≤ d) (hlink : Cond.methodLink Y.1.cls index Lib.objectInit ∈ tb) (hr : (st.map fun v => v.category).sum ≤ 8) (kk : PX G EP d Y (pc + 3) ls st S mc ms Post) : PX G EP d Y pc ls (.ref a :: st) S mc ms Post :=
  fun h hp => ax_objInit hd hd1 hlink ci_i ci_c hr (kk h hp)
theorem ex_callI {d1 index n a : Nat} {Y' : Yt} {av st0 : List Value} {P : Ht → Prop} (hd : decode Y.2.1 pc = .ok (.invokespecial index, 3)) (hl : cLLI Y.1.cls index Y' n) (hn : av.length = n) (hst : st0 = av.reverse ++ .ref a :: st) (hC : PC G EP d1 Y' (.ref a :: av) S 0 0 (rv P)) (hdd : d1 + 1 ≤ d) (hcat : (st.map fun v => v.category).sum ≤ 8) (kk : ∀ S', P S' → PX G EP d Y (pc + 3) ls st S' mc ms Post) : PX G EP d Y pc ls st0 S mc ms Post := by
  intro h hp
  refine ax_budget (Nat.le_of_eq (Nat.zero_add mc)) (Nat.le_of_eq (Nat.zero_add ms)) (ax_callI hd hl hn hst hdd hcat (hC h hp) (fun r h' hq => ?_))
  obtain ⟨S', hS', rfl, hP⟩ := hq
  exact kk S' hP h' hS'
end EXr
def z10 : List Value := [.int 0, .int 0, .int 0, .int 0, .int 0, .int 0, .int 0, .int 0, .int 0, .int 0]
def cz (k s n w : Int32) : List Value := [.int k, .int s, .int n, .int w, .int 0, .int 0, .int 0, .int 0, .int 0, .int 0]
theorem gi_9 (v : Int32) : GI RX2 9 (kci v) 0 .int := kci_p (fun c => GI RX2 9 c 0 .int) v igX2_9_2 igX2_9_8 igX2_9_1 igX2_9_0 igX2_9_6 igX2_9_4
theorem gi_15 (v : Int32) : GI RX2 15 (kci v) 1 .int := kci_p (fun c => GI RX2 15 c 1 .int) v igX2_15_2 igX2_15_8 igX2_15_1 igX2_15_0 igX2_15_6 igX2_15_4
theorem gi_18 (v : Int32) : GI RX2 18 (kci v) 2 .int := kci_p (fun c => GI RX2 18 c 2 .int) v igX2_18_2 igX2_18_8 igX2_18_1 igX2_18_0 igX2_18_6 igX2_18_4
theorem gi_21 (v : Int32) : GI RX2 21 (kci v) 3 .int := kci_p (fun c => GI RX2 21 c 3 .int) v igX2_21_2 igX2_21_8 igX2_21_1 igX2_21_0 igX2_21_6 igX2_21_4
set_option maxHeartbeats 400000 in
set_option maxRecDepth 100000 in
theorem c_X2_init (G : Gt) (S : Ht) (a : Nat) (k s n w c : Int32) (hB : gB G ≤ a) (ha : a < S.1) (hc : S.2 a = .inr (kci c, z10)) : PC G EP 1 Y2_init [.ref a, .int k, .int s, .int n, .int w] S 0 0 (rv (fun S' => S' = (S.1, va_up S.2 a (.inr (kci c, cz k s n w))))) := by
  refine pc_of (ls := [some (.ref a), some (.int k), some (.int s), some (.int n), some (.int w)]) (by decide +kernel) rfl (Nat.le_of_ble_eq_true rfl) ?_
  refine px_aload_n dX2_init_0 rfl rfl ?_
  refine ex_obj dX2_init_1 (by decide) ol_2 (Nat.le_of_ble_eq_true rfl) ?_
  refine px_aload_n dX2_init_4 rfl rfl ?_
  refine px_iload_n dX2_init_5 rfl rfl ?_
  refine ex_putF (k := 0) dX2_init_6 (gi_9 c) rfl hB ha hc (Nat.le_of_ble_eq_true rfl) rfl rfl ?_
  refine px_aload_n dX2_init_9 rfl rfl ?_
  refine px_iload_n dX2_init_10 rfl rfl ?_
  refine ex_putF (k := 1) dX2_init_11 (gi_15 c) rfl hB ha (va_up_self _ _ _) (Nat.le_of_ble_eq_true rfl) rfl rfl ?_
  refine px_aload_n dX2_init_14 rfl rfl ?_
  refine px_iload_n dX2_init_15 rfl rfl ?_
  refine ex_putF (k := 2) dX2_init_16 (gi_18 c) rfl hB ha (va_up_self _ _ _) (Nat.le_of_ble_eq_true rfl) rfl rfl ?_
  refine px_aload_n dX2_init_19 rfl rfl ?_
  refine px_iload dX2_init_20 rfl ?_
  refine ex_putF (k := 3) dX2_init_22 (gi_21 c) rfl hB ha (va_up_self _ _ _) (Nat.le_of_ble_eq_true rfl) rfl rfl ?_
  refine px_return dX2_init_25 rfl ?_
  show ((S.1, _) : Ht) = (S.1, _)
  simp only [va_up_up]
  rfl
set_option maxHeartbeats 400000 in
set_option maxRecDepth 100000 in
theorem c_X8_init (G : Gt) (S : Ht) (a : Nat) (k s n w c : Int32) (hB : gB G ≤ a) (ha : a < S.1) (hc : S.2 a = .inr (kci c, z10)) : PC G EP 2 Y8_init [.ref a, .int k, .int s, .int n, .int w] S 0 0 (rv (fun S' => S' = (S.1, va_up S.2 a (.inr (kci c, cz k s n w))))) := by
  refine pc_of (ls := [some (.ref a), some (.int k), some (.int s), some (.int n), some (.int w)]) (by decide +kernel) rfl (Nat.le_of_ble_eq_true rfl) ?_
  refine px_aload_n dX8_init_0 rfl rfl ?_
  refine px_iload_n dX8_init_1 rfl rfl ?_
  refine px_iload_n dX8_init_2 rfl rfl ?_
  refine px_iload_n dX8_init_3 rfl rfl ?_
  refine px_iload dX8_init_4 rfl ?_
  refine ex_callI dX8_init_6 lX8_1 (av := [.int k, .int s, .int n, .int w]) rfl rfl (c_X2_init G S a k s n w c hB ha hc) (by decide) (Nat.le_of_ble_eq_true rfl) (fun S9 h9 => ?_)
  exact px_return dX8_init_9 rfl h9
set_option maxHeartbeats 400000 in
set_option maxRecDepth 100000 in
theorem c_X1_init (G : Gt) (S : Ht) (a : Nat) (k s n w c : Int32) (hB : gB G ≤ a) (ha : a < S.1) (hc : S.2 a = .inr (kci c, z10)) : PC G EP 2 Y1_init [.ref a, .int k, .int s, .int n, .int w] S 0 0 (rv (fun S' => S' = (S.1, va_up S.2 a (.inr (kci c, cz k s n w))))) := by
  refine pc_of (ls := [some (.ref a), some (.int k), some (.int s), some (.int n), some (.int w)]) (by decide +kernel) rfl (Nat.le_of_ble_eq_true rfl) ?_
  refine px_aload_n dX1_init_0 rfl rfl ?_
  refine px_iload_n dX1_init_1 rfl rfl ?_
  refine px_iload_n dX1_init_2 rfl rfl ?_
  refine px_iload_n dX1_init_3 rfl rfl ?_
  refine px_iload dX1_init_4 rfl ?_
  refine ex_callI dX1_init_6 lX1_1 (av := [.int k, .int s, .int n, .int w]) rfl rfl (c_X2_init G S a k s n w c hB ha hc) (by decide) (Nat.le_of_ble_eq_true rfl) (fun S9 h9 => ?_)
  exact px_return dX1_init_9 rfl h9
set_option maxHeartbeats 400000 in
set_option maxRecDepth 100000 in
theorem c_X0_init (G : Gt) (S : Ht) (a : Nat) (k s n w c : Int32) (hB : gB G ≤ a) (ha : a < S.1) (hc : S.2 a = .inr (kci c, z10)) : PC G EP 2 Y0_init [.ref a, .int k, .int s, .int n, .int w] S 0 0 (rv (fun S' => S' = (S.1, va_up S.2 a (.inr (kci c, cz k s n w))))) := by
  refine pc_of (ls := [some (.ref a), some (.int k), some (.int s), some (.int n), some (.int w)]) (by decide +kernel) rfl (Nat.le_of_ble_eq_true rfl) ?_
  refine px_aload_n dX0_init_0 rfl rfl ?_
  refine px_iload_n dX0_init_1 rfl rfl ?_
  refine px_iload_n dX0_init_2 rfl rfl ?_
  refine px_iload_n dX0_init_3 rfl rfl ?_
  refine px_iload dX0_init_4 rfl ?_
  refine ex_callI dX0_init_6 lX0_1 (av := [.int k, .int s, .int n, .int w]) rfl rfl (c_X2_init G S a k s n w c hB ha hc) (by decide) (Nat.le_of_ble_eq_true rfl) (fun S9 h9 => ?_)
  exact px_return dX0_init_9 rfl h9
set_option maxHeartbeats 400000 in
set_option maxRecDepth 100000 in
theorem c_X6_init (G : Gt) (S : Ht) (a : Nat) (k s n w c : Int32) (hB : gB G ≤ a) (ha : a < S.1) (hc : S.2 a = .inr (kci c, z10)) : PC G EP 3 Y6_init [.ref a, .int k, .int s, .int n, .int w] S 0 0 (rv (fun S' => S' = (S.1, va_up S.2 a (.inr (kci c, cz k s n w))))) := by
  refine pc_of (ls := [some (.ref a), some (.int k), some (.int s), some (.int n), some (.int w)]) (by decide +kernel) rfl (Nat.le_of_ble_eq_true rfl) ?_
  refine px_aload_n dX6_init_0 rfl rfl ?_
  refine px_iload_n dX6_init_1 rfl rfl ?_
  refine px_iload_n dX6_init_2 rfl rfl ?_
  refine px_iload_n dX6_init_3 rfl rfl ?_
  refine px_iload dX6_init_4 rfl ?_
  refine ex_callI dX6_init_6 lX6_1 (av := [.int k, .int s, .int n, .int w]) rfl rfl (c_X8_init G S a k s n w c hB ha hc) (by decide) (Nat.le_of_ble_eq_true rfl) (fun S9 h9 => ?_)
  exact px_return dX6_init_9 rfl h9
set_option maxHeartbeats 400000 in
set_option maxRecDepth 100000 in
theorem c_X4_init (G : Gt) (S : Ht) (a : Nat) (k s n w c : Int32) (hB : gB G ≤ a) (ha : a < S.1) (hc : S.2 a = .inr (kci c, z10)) : PC G EP 3 Y4_init [.ref a, .int k, .int s, .int n, .int w] S 0 0 (rv (fun S' => S' = (S.1, va_up S.2 a (.inr (kci c, cz k s n w))))) := by
  refine pc_of (ls := [some (.ref a), some (.int k), some (.int s), some (.int n), some (.int w)]) (by decide +kernel) rfl (Nat.le_of_ble_eq_true rfl) ?_
  refine px_aload_n dX4_init_0 rfl rfl ?_
  refine px_iload_n dX4_init_1 rfl rfl ?_
  refine px_iload_n dX4_init_2 rfl rfl ?_
  refine px_iload_n dX4_init_3 rfl rfl ?_
  refine px_iload dX4_init_4 rfl ?_
  refine ex_callI dX4_init_6 lX4_1 (av := [.int k, .int s, .int n, .int w]) rfl rfl (c_X1_init G S a k s n w c hB ha hc) (by decide) (Nat.le_of_ble_eq_true rfl) (fun S9 h9 => ?_)
  exact px_return dX4_init_9 rfl h9
theorem nwk_1 : NW RX11 297 (kci 1) z10 10 := by rw [show kci 1 = 8 by decide]; exact nX11_297
theorem nwk_2 : NW RX11 302 (kci 2) z10 10 := by rw [show kci 2 = 1 by decide]; exact nX11_302
theorem nwk_3 : NW RX11 305 (kci 3) z10 10 := by rw [show kci 3 = 0 by decide]; exact nX11_305
theorem nwk_4 : NW RX11 232 (kci 4) z10 10 := by rw [show kci 4 = 6 by decide]; exact nX11_232
theorem nwk_5 : NW RX11 309 (kci 5) z10 10 := by rw [show kci 5 = 4 by decide]; exact nX11_309
theorem nwk_0 : NW RX11 16 (kci 0) z10 10 := by rw [show kci 0 = 2 by decide]; exact nX11_16
set_option maxHeartbeats 400000 in
set_option maxRecDepth 100000 in
theorem c_X11_newCoat (G : Gt) (S : Ht) (k s r : Int32) (hB : gB G ≤ S.1) (hk : ∃ j : Nat, j ≤ 5 ∧ k = nI j) : PC G EP 4 Y11_newCoat [.int k, .int s, .int r] S 1 10 (rr (fun x S' => x = .ref S.1 ∧ S' = (S.1 + 1, va_up S.2 S.1 (.inr (kci k, cz k s (r / 1000) (r - r / 1000 * 1000)))))) := by
  refine pc_of (ls := [some (.int k), some (.int s), some (.int r), none, none]) (by decide +kernel) rfl (Nat.le_of_ble_eq_true rfl) ?_
  refine px_iload_n dX11_newCoat_0 rfl rfl ?_
  refine px_sipush (v := 1000) dX11_newCoat_1 (by decide) ?_
  refine px_idiv dX11_newCoat_4 (by decide) ?_
  refine px_istore_n3 dX11_newCoat_5 (by decide) rfl ?_
  refine px_iload_n dX11_newCoat_6 rfl rfl ?_
  refine px_sipush (v := 1000) dX11_newCoat_7 (by decide) ?_
  refine px_irem dX11_newCoat_10 (by decide) ?_
  refine px_istore_4 dX11_newCoat_11 (by decide) rfl ?_
  refine px_iload_n dX11_newCoat_13 rfl rfl ?_
  rcases sw_1_5 (k) with H14 | H14 | H14 | H14 | H14 | H14
  · refine px_tableIn (off := 34) (tgt := 48) dX11_newCoat_14 (by rw [H14]; decide) (by rw [H14]; decide) (by rw [H14]; rfl) (by decide) ?_
    subst H14
    refine ex_new (mc := 0) (ms := 0) (N := 10) dX11_newCoat_48 nwk_1 ?_
    refine px_dup dX11_newCoat_51 rfl ?_
    refine px_iload_n dX11_newCoat_52 rfl rfl ?_
    refine px_iload_n dX11_newCoat_53 rfl rfl ?_
    refine px_iload_n dX11_newCoat_54 rfl rfl ?_
    refine px_iload dX11_newCoat_55 rfl ?_
    refine ex_callI dX11_newCoat_57 lX11_299 (av := [.int 1, .int s, .int (r / 1000), .int (r - r / 1000 * 1000)]) rfl rfl (c_X8_init G _ S.1 1 s (r / 1000) (r - r / 1000 * 1000) 1 hB (Nat.lt_succ_self _) (va_up_self _ _ _)) (by decide) (Nat.le_of_ble_eq_true rfl) (fun S57 Q57 => ?_)
    subst Q57
    refine px_areturn dX11_newCoat_60 rfl (Or.inl ⟨_, rfl⟩) (Or.inr ⟨_, rfl⟩) ?_
    exact ⟨rfl, by show ((_, va_up (va_up _ _ _) _ _) : Ht) = _; rw [va_up_up]⟩
  · refine px_tableIn (off := 47) (tgt := 61) dX11_newCoat_14 (by rw [H14]; decide) (by rw [H14]; decide) (by rw [H14]; rfl) (by decide) ?_
    subst H14
    refine ex_new (mc := 0) (ms := 0) (N := 10) dX11_newCoat_61 nwk_2 ?_
    refine px_dup dX11_newCoat_64 rfl ?_
    refine px_iload_n dX11_newCoat_65 rfl rfl ?_
    refine px_iload_n dX11_newCoat_66 rfl rfl ?_
    refine px_iload_n dX11_newCoat_67 rfl rfl ?_
    refine px_iload dX11_newCoat_68 rfl ?_
    refine ex_callI dX11_newCoat_70 lX11_304 (av := [.int 2, .int s, .int (r / 1000), .int (r - r / 1000 * 1000)]) rfl rfl (c_X1_init G _ S.1 2 s (r / 1000) (r - r / 1000 * 1000) 2 hB (Nat.lt_succ_self _) (va_up_self _ _ _)) (by decide) (Nat.le_of_ble_eq_true rfl) (fun S70 Q70 => ?_)
    subst Q70
    refine px_areturn dX11_newCoat_73 rfl (Or.inl ⟨_, rfl⟩) (Or.inr ⟨_, rfl⟩) ?_
    exact ⟨rfl, by show ((_, va_up (va_up _ _ _) _ _) : Ht) = _; rw [va_up_up]⟩
  · refine px_tableIn (off := 60) (tgt := 74) dX11_newCoat_14 (by rw [H14]; decide) (by rw [H14]; decide) (by rw [H14]; rfl) (by decide) ?_
    subst H14
    refine ex_new (mc := 0) (ms := 0) (N := 10) dX11_newCoat_74 nwk_3 ?_
    refine px_dup dX11_newCoat_77 rfl ?_
    refine px_iload_n dX11_newCoat_78 rfl rfl ?_
    refine px_iload_n dX11_newCoat_79 rfl rfl ?_
    refine px_iload_n dX11_newCoat_80 rfl rfl ?_
    refine px_iload dX11_newCoat_81 rfl ?_
    refine ex_callI dX11_newCoat_83 lX11_307 (av := [.int 3, .int s, .int (r / 1000), .int (r - r / 1000 * 1000)]) rfl rfl (c_X0_init G _ S.1 3 s (r / 1000) (r - r / 1000 * 1000) 3 hB (Nat.lt_succ_self _) (va_up_self _ _ _)) (by decide) (Nat.le_of_ble_eq_true rfl) (fun S83 Q83 => ?_)
    subst Q83
    refine px_areturn dX11_newCoat_86 rfl (Or.inl ⟨_, rfl⟩) (Or.inr ⟨_, rfl⟩) ?_
    exact ⟨rfl, by show ((_, va_up (va_up _ _ _) _ _) : Ht) = _; rw [va_up_up]⟩
  · refine px_tableIn (off := 73) (tgt := 87) dX11_newCoat_14 (by rw [H14]; decide) (by rw [H14]; decide) (by rw [H14]; rfl) (by decide) ?_
    subst H14
    refine ex_new (mc := 0) (ms := 0) (N := 10) dX11_newCoat_87 nwk_4 ?_
    refine px_dup dX11_newCoat_90 rfl ?_
    refine px_iload_n dX11_newCoat_91 rfl rfl ?_
    refine px_iload_n dX11_newCoat_92 rfl rfl ?_
    refine px_iload_n dX11_newCoat_93 rfl rfl ?_
    refine px_iload dX11_newCoat_94 rfl ?_
    refine ex_callI dX11_newCoat_96 lX11_308 (av := [.int 4, .int s, .int (r / 1000), .int (r - r / 1000 * 1000)]) rfl rfl (c_X6_init G _ S.1 4 s (r / 1000) (r - r / 1000 * 1000) 4 hB (Nat.lt_succ_self _) (va_up_self _ _ _)) (by decide) (Nat.le_of_ble_eq_true rfl) (fun S96 Q96 => ?_)
    subst Q96
    refine px_areturn dX11_newCoat_99 rfl (Or.inl ⟨_, rfl⟩) (Or.inr ⟨_, rfl⟩) ?_
    exact ⟨rfl, by show ((_, va_up (va_up _ _ _) _ _) : Ht) = _; rw [va_up_up]⟩
  · refine px_tableIn (off := 86) (tgt := 100) dX11_newCoat_14 (by rw [H14]; decide) (by rw [H14]; decide) (by rw [H14]; rfl) (by decide) ?_
    subst H14
    refine ex_new (mc := 0) (ms := 0) (N := 10) dX11_newCoat_100 nwk_5 ?_
    refine px_dup dX11_newCoat_103 rfl ?_
    refine px_iload_n dX11_newCoat_104 rfl rfl ?_
    refine px_iload_n dX11_newCoat_105 rfl rfl ?_
    refine px_iload_n dX11_newCoat_106 rfl rfl ?_
    refine px_iload dX11_newCoat_107 rfl ?_
    refine ex_callI dX11_newCoat_109 lX11_311 (av := [.int 5, .int s, .int (r / 1000), .int (r - r / 1000 * 1000)]) rfl rfl (c_X4_init G _ S.1 5 s (r / 1000) (r - r / 1000 * 1000) 5 hB (Nat.lt_succ_self _) (va_up_self _ _ _)) (by decide) (Nat.le_of_ble_eq_true rfl) (fun S109 Q109 => ?_)
    subst Q109
    refine px_areturn dX11_newCoat_112 rfl (Or.inl ⟨_, rfl⟩) (Or.inr ⟨_, rfl⟩) ?_
    exact ⟨rfl, by show ((_, va_up (va_up _ _ _) _ _) : Ht) = _; rw [va_up_up]⟩
  · refine px_tableOut (tgt := 113) dX11_newCoat_14 H14 (by decide) ?_
    have N14_1 : ¬ k = 1 := by intro e9; rw [e9] at H14; revert H14; decide
    have N14_2 : ¬ k = 2 := by intro e9; rw [e9] at H14; revert H14; decide
    have N14_3 : ¬ k = 3 := by intro e9; rw [e9] at H14; revert H14; decide
    have N14_4 : ¬ k = 4 := by intro e9; rw [e9] at H14; revert H14; decide
    have N14_5 : ¬ k = 5 := by intro e9; rw [e9] at H14; revert H14; decide
    obtain rfl : k = 0 := by
      obtain ⟨j, hj, rfl⟩ := hk
      rcases (by omega : j = 0 ∨ j = 1 ∨ j = 2 ∨ j = 3 ∨ j = 4 ∨ j = 5) with rfl | rfl | rfl | rfl | rfl | rfl
      · rfl
      · exact absurd rfl N14_1
      · exact absurd rfl N14_2
      · exact absurd rfl N14_3
      · exact absurd rfl N14_4
      · exact absurd rfl N14_5
    refine ex_new (mc := 0) (ms := 0) (N := 10) dX11_newCoat_113 nwk_0 ?_
    refine px_dup dX11_newCoat_116 rfl ?_
    refine px_iload_n dX11_newCoat_117 rfl rfl ?_
    refine px_iload_n dX11_newCoat_118 rfl rfl ?_
    refine px_iload_n dX11_newCoat_119 rfl rfl ?_
    refine px_iload dX11_newCoat_120 rfl ?_
    refine ex_callI dX11_newCoat_122 lX11_312 (av := [.int 0, .int s, .int (r / 1000), .int (r - r / 1000 * 1000)]) rfl rfl (c_X2_init G _ S.1 0 s (r / 1000) (r - r / 1000 * 1000) 0 hB (Nat.lt_succ_self _) (va_up_self _ _ _)) (by decide) (Nat.le_of_ble_eq_true rfl) (fun S122 Q122 => ?_)
    subst Q122
    refine px_areturn dX11_newCoat_125 rfl (Or.inl ⟨_, rfl⟩) (Or.inr ⟨_, rfl⟩) ?_
    exact ⟨rfl, by show ((_, va_up (va_up _ _ _) _ _) : Ht) = _; rw [va_up_up]⟩
