/-! THE CLASS: charAt, indexOf of String constants -/
def PV (G : Gt) (d : Nat) (Y : Yt) (av : List Value) : Prop := ∀ h : Ht, CX G d Y av h 0 0 (fun r h' => r = none ∧ h' = h)
theorem px_pureV2 {σ : Type} {Pic : σ → Ht → Prop} {G : Gt} {d : Nat} {Y : Yt} {pc : Nat} {ls : List (Option Value)} {st : List Value} {S : σ} {mc ms : Nat} {Post : Option Value → σ → Prop} {d1 index : Nat} {Y' : Yt} {v1 v2 : Value} (hd : decode Y.2.1 pc = .ok (.invokestatic index, 3)) (hl : cLLS Y.1.cls index Y' 2) (hC : PV G d1 Y' [v1, v2]) (hdd : d1 + 1 ≤ d) (hcat : (st.map fun v => v.category).sum ≤ 8) (kk : PX G Pic d Y (pc + 3) ls st S mc ms Post) : PX G Pic d Y pc ls (v2 :: v1 :: st) S mc ms Post := fun h hp => ax_budget (Nat.le_of_eq (Nat.zero_add mc)) (Nat.le_of_eq (Nat.zero_add ms)) (ax_callS hd hl (av := [v1, v2]) rfl rfl hdd hcat (hC h) (fun r h' hq => by obtain ⟨rfl, rfl⟩ := hq; exact kk h' hp))
def CKI (G : Gt) : Prop := ∀ k n : Nat, k < n → n ≤ 100000 → PV G 2 YJ0_checkIndex_df160 [.int (nI k), .int (nI n)]
theorem kch : ∀ i, i < 2 → ∀ k, k < kLen i → (((kByt i k &&& 255).toUInt32 % 65536).toInt32 = kByt i k ∧ narrow .char (.int (kByt i k)) = .int (kByt i k)) := by decide +kernel
set_option maxHeartbeats 400000 in
set_option maxRecDepth 100000 in
theorem c_J1_charAt_3b067 (G : Gt) (i k : Nat) (hi : i < 2) (hk : k < kLen i) (hck : CKI G) : PS G 3 YJ1_charAt_3b067 [.ref (gA G (5 + i)), .int (nI k)] (kByt i k) := by
  refine ps_ofpF (ls := [some (.ref (gA G (5 + i))), some (.int (nI k))]) (by decide +kernel) rfl (Nat.le_of_ble_eq_true rfl) (fun h => ?_)
  refine px_iload_n dJ1_charAt_3b067_0 rfl rfl ?_
  refine px_aload_n dJ1_charAt_3b067_1 rfl rfl ?_
  refine px_klen hi dJ1_charAt_3b067_2 ?_
  refine px_pureV2 dJ1_charAt_3b067_3 lJ1_9 (hck k (kLen i) hk (by have := kLen_le (i := i); omega)) (by decide) (Nat.le_of_ble_eq_true rfl) ?_
  refine px_aload_n dJ1_charAt_3b067_6 rfl rfl ?_
  refine px_iload_n dJ1_charAt_3b067_7 rfl rfl ?_
  refine px_kbyte k hi dJ1_charAt_3b067_8 rfl hk ?_
  refine px_sipush (v := 255) dJ1_charAt_3b067_9 (by decide) ?_
  refine px_iand dJ1_charAt_3b067_12 ?_
  refine px_i2c dJ1_charAt_3b067_13 ?_
  rw [(kch i hi k hk).1]
  exact px_iretT dJ1_charAt_3b067_14 rfl (kch i hi k hk).2 ⟨rfl, rfl⟩
set_option maxHeartbeats 400000 in
set_option maxRecDepth 100000 in
theorem c_J0_charAt_5068e (G : Gt) (i k : Nat) (hi : i < 2) (hk : k < kLen i) (hck : CKI G) : PS G 4 YJ0_charAt_5068e [.ref (gA G (3 + i)), .int (nI k)] (kByt i k) := by
  refine ps_ofpF (ls := [some (.ref (gA G (3 + i))), some (.int (nI k))]) (by decide +kernel) rfl (Nat.le_of_ble_eq_true rfl) (fun h => ?_)
  refine px_aload_n dJ0_charAt_5068e_0 rfl rfl ?_
  refine px_kcall (av := []) hi dJ0_charAt_5068e_1 lJ0_492 rfl rfl rfl (c_J0_isLatin1_aae02 G i hi) (by decide) (Nat.le_of_ble_eq_true rfl) ?_
  refine px_if_eq (tgt := 16) dJ0_charAt_5068e_4 (by decide) (fun H4 => absurd H4 (by decide)) (fun H4 => ?_)
  refine px_aload_n dJ0_charAt_5068e_7 rfl rfl ?_
  refine px_kvalue hi dJ0_charAt_5068e_8 fl_value ?_
  refine px_iload_n dJ0_charAt_5068e_11 rfl rfl ?_
  refine px_pure2 dJ0_charAt_5068e_12 lJ0_495 (c_J1_charAt_3b067 G i k hi hk hck) (by decide) (Nat.le_of_ble_eq_true rfl) ?_
  exact px_iretT dJ0_charAt_5068e_15 rfl (kch i hi k hk).2 ⟨rfl, rfl⟩
def ixR (i : Nat) (c : Int32) : Nat → Nat → Int32
  | 0, _ => -1
  | n + 1, k => if kByt i k = c then nI k else ixR i c n (k + 1)
set_option maxHeartbeats 400000 in
set_option maxRecDepth 100000 in
theorem lp_ioc (G : Gt) (i : Nat) (hi : i < 2) (c f cb : Int32) (h : Ht) : ∀ n k : Nat, k + n = kLen i → PX G (fun (S : Ht) (h : Ht) => h = S) 1 YJ1_indexOfChar_4cfef 7 [some (.ref (gA G (5 + i))), some (.int c), some (.int f), some (.int (nI (kLen i))), some (.int cb), some (.int (nI k))] [] h 0 0 (ri (fun v S' => v = ixR i cb n k ∧ S' = h)) := by
  intro n
  have hL := kLen_le (i := i)
  induction n with
  | zero =>
    intro k hk
    refine px_iload dJ1_indexOfChar_4cfef_7 rfl ?_
    refine px_iload_n dJ1_indexOfChar_4cfef_9 rfl rfl ?_
    refine px_icmp_ge (tgt := 31) dJ1_indexOfChar_4cfef_10 (by decide) (fun H10 => ?_) (fun H10 => ?_)
    · refine px_iconst (v := (-1)) dJ1_indexOfChar_4cfef_31 (by decide) ?_
      exact px_iretI dJ1_indexOfChar_4cfef_32 rfl ⟨rfl, rfl⟩
    · exact absurd (lt_n (a := k) (b := kLen i) (by omega) (by omega) H10) (by omega)
  | succ n ih =>
    intro k hk
    refine px_iload dJ1_indexOfChar_4cfef_7 rfl ?_
    refine px_iload_n dJ1_indexOfChar_4cfef_9 rfl rfl ?_
    refine px_icmp_ge (tgt := 31) dJ1_indexOfChar_4cfef_10 (by decide) (fun H10 => ?_) (fun H10 => ?_)
    · exact absurd (ge_n (a := k) (b := kLen i) (by omega) (by omega) H10) (by omega)
    · refine px_aload_n dJ1_indexOfChar_4cfef_13 rfl rfl ?_
      refine px_iload dJ1_indexOfChar_4cfef_14 rfl ?_
      refine px_kbyte k hi dJ1_indexOfChar_4cfef_16 rfl (by omega) ?_
      refine px_iload dJ1_indexOfChar_4cfef_17 rfl ?_
      refine px_icmp_ne (tgt := 25) dJ1_indexOfChar_4cfef_19 (by decide) (fun H19 => ?_) (fun H19 => ?_)
      · refine px_iinc_5 (v := 1) dJ1_indexOfChar_4cfef_25 (by decide) (by decide) rfl ?_
        refine px_goto (tgt := 7) dJ1_indexOfChar_4cfef_28 (by decide) ?_
        rw [nI_1, ixR, if_neg H19]
        exact ih (k + 1) (by omega)
      · refine px_iload dJ1_indexOfChar_4cfef_22 rfl ?_
        exact px_iretI dJ1_indexOfChar_4cfef_24 rfl ⟨by rw [ixR, if_pos H19], rfl⟩
set_option maxHeartbeats 400000 in
set_option maxRecDepth 100000 in
theorem c_J1_indexOfChar_4cfef (G : Gt) (i : Nat) (hi : i < 2) (c : Int32) : PS G 1 YJ1_indexOfChar_4cfef [.ref (gA G (5 + i)), .int c, .int 0, .int (nI (kLen i))] (ixR i c.toInt8.toInt32 (kLen i) 0) := by
  refine ps_ofpF (ls := [some (.ref (gA G (5 + i))), some (.int c), some (.int 0), some (.int (nI (kLen i))), none, none]) (by decide +kernel) rfl (Nat.le_of_ble_eq_true rfl) (fun h => ?_)
  refine px_iload_n dJ1_indexOfChar_4cfef_0 rfl rfl ?_
  refine px_i2b dJ1_indexOfChar_4cfef_1 ?_
  refine px_istore_4 dJ1_indexOfChar_4cfef_2 (by decide) rfl ?_
  refine px_iload_n dJ1_indexOfChar_4cfef_4 rfl rfl ?_
  refine px_istore_5 dJ1_indexOfChar_4cfef_5 (by decide) rfl ?_
  exact lp_ioc G i hi c 0 _ h (kLen i) 0 (by omega)
def ixO (i : Nat) (c : Int32) : Int32 := if mIn c 0 255 = 0 then -1 else ixR i c.toInt8.toInt32 (kLen i) 0
theorem jMin_s (a : Int32) : jMin a a = a := by unfold jMin; split <;> rfl
set_option maxHeartbeats 400000 in
set_option maxRecDepth 100000 in
theorem c_J1_indexOf_4cfef (G : Gt) (i : Nat) (hi : i < 2) (c : Int32) : PS G 2 YJ1_indexOf_4cfef [.ref (gA G (5 + i)), .int c, .int 0, .int (nI (kLen i))] (ixO i c) := by
  have hL := kLen_le (i := i)
  refine ps_ofpF (ls := [some (.ref (gA G (5 + i))), some (.int c), some (.int 0), some (.int (nI (kLen i)))]) (by decide +kernel) rfl (Nat.le_of_ble_eq_true rfl) (fun h => ?_)
  refine px_iload_n dJ1_indexOf_4cfef_0 rfl rfl ?_
  refine px_pure1 dJ1_indexOf_4cfef_1 lJ1_88 (c_J1_canEncode_9a6ad G c) (by decide) (Nat.le_of_ble_eq_true rfl) ?_
  refine px_if_ne (tgt := 9) dJ1_indexOf_4cfef_4 (by decide) (fun H4 => ?_) (fun H4 => ?_)
  · refine px_iload_n dJ1_indexOf_4cfef_9 rfl rfl ?_
    refine px_iconst (v := 0) dJ1_indexOf_4cfef_10 (by decide) ?_
    refine px_pure2 dJ1_indexOf_4cfef_11 lJ1_92 (c_J9_max_7cf53 G _ _) (by decide) (Nat.le_of_ble_eq_true rfl) ?_
    rw [show jMax 0 0 = 0 by decide]
    refine px_istore_n2 dJ1_indexOf_4cfef_14 (by decide) rfl ?_
    refine px_iload_n dJ1_indexOf_4cfef_15 rfl rfl ?_
    refine px_aload_n dJ1_indexOf_4cfef_16 rfl rfl ?_
    refine px_klen hi dJ1_indexOf_4cfef_17 ?_
    refine px_pure2 dJ1_indexOf_4cfef_18 lJ1_38 (c_J9_min_7cf53 G _ _) (by decide) (Nat.le_of_ble_eq_true rfl) ?_
    rw [jMin_s]
    refine px_istore_n3 dJ1_indexOf_4cfef_21 (by decide) rfl ?_
    refine px_iload_n dJ1_indexOf_4cfef_22 rfl rfl ?_
    refine px_iload_n dJ1_indexOf_4cfef_23 rfl rfl ?_
    refine px_icmp_lt (tgt := 29) dJ1_indexOf_4cfef_24 (by decide) (fun H24 => ?_) (fun H24 => ?_)
    · refine px_aload_n dJ1_indexOf_4cfef_29 rfl rfl ?_
      refine px_iload_n dJ1_indexOf_4cfef_30 rfl rfl ?_
      refine px_iload_n dJ1_indexOf_4cfef_31 rfl rfl ?_
      refine px_iload_n dJ1_indexOf_4cfef_32 rfl rfl ?_
      refine px_pure4 dJ1_indexOf_4cfef_33 lJ1_95 (c_J1_indexOfChar_4cfef G i hi c) (by decide) (Nat.le_of_ble_eq_true rfl) ?_
      exact px_iretI dJ1_indexOf_4cfef_36 rfl ⟨by rw [ixO, if_neg H4], rfl⟩
    · refine absurd ?_ H24
      rcases (by omega : i = 0 ∨ i = 1) with rfl | rfl <;> decide
  · refine px_iconst (v := (-1)) dJ1_indexOf_4cfef_7 (by decide) ?_
    exact px_iretI dJ1_indexOf_4cfef_8 rfl ⟨by rw [ixO, if_pos H4], rfl⟩
set_option maxHeartbeats 400000 in
set_option maxRecDepth 100000 in
theorem c_J0_indexOf_7cf53 (G : Gt) (i : Nat) (hi : i < 2) (c : Int32) : PS G 3 YJ0_indexOf_7cf53 [.ref (gA G (3 + i)), .int c, .int 0] (ixO i c) := by
  refine ps_ofpF (ls := [some (.ref (gA G (3 + i))), some (.int c), some (.int 0)]) (by decide +kernel) rfl (Nat.le_of_ble_eq_true rfl) (fun h => ?_)
  refine px_aload_n dJ0_indexOf_7cf53_0 rfl rfl ?_
  refine px_kcall (av := []) hi dJ0_indexOf_7cf53_1 lJ0_492 rfl rfl rfl (c_J0_isLatin1_aae02 G i hi) (by decide) (Nat.le_of_ble_eq_true rfl) ?_
  refine px_if_eq (tgt := 23) dJ0_indexOf_7cf53_4 (by decide) (fun H4 => absurd H4 (by decide)) (fun H4 => ?_)
  refine px_aload_n dJ0_indexOf_7cf53_7 rfl rfl ?_
  refine px_kvalue hi dJ0_indexOf_7cf53_8 fl_value ?_
  refine px_iload_n dJ0_indexOf_7cf53_11 rfl rfl ?_
  refine px_iload_n dJ0_indexOf_7cf53_12 rfl rfl ?_
  refine px_aload_n dJ0_indexOf_7cf53_13 rfl rfl ?_
  refine px_kcall (av := []) hi dJ0_indexOf_7cf53_14 lJ0_505 rfl rfl rfl (c_J0_length_8abf5 G i hi) (by decide) (Nat.le_of_ble_eq_true rfl) ?_
  refine px_pure4 dJ0_indexOf_7cf53_17 lJ0_637 (c_J1_indexOf_4cfef G i hi c) (by decide) (Nat.le_of_ble_eq_true rfl) ?_
  refine px_goto (tgt := 36) dJ0_indexOf_7cf53_20 (by decide) ?_
  exact px_iretI dJ0_indexOf_7cf53_36 rfl ⟨rfl, rfl⟩
set_option maxHeartbeats 400000 in
set_option maxRecDepth 100000 in
theorem c_J0_indexOf_0f7a4 (G : Gt) (i : Nat) (hi : i < 2) (c : Int32) : PS G 4 YJ0_indexOf_0f7a4 [.ref (gA G (3 + i)), .int c] (ixO i c) := by
  refine ps_ofpF (ls := [some (.ref (gA G (3 + i))), some (.int c)]) (by decide +kernel) rfl (Nat.le_of_ble_eq_true rfl) (fun h => ?_)
  refine px_aload_n dJ0_indexOf_0f7a4_0 rfl rfl ?_
  refine px_iload_n dJ0_indexOf_0f7a4_1 rfl rfl ?_
  refine px_iconst (v := 0) dJ0_indexOf_0f7a4_2 (by decide) ?_
  refine px_kcall (av := [.int c, .int 0]) hi dJ0_indexOf_0f7a4_3 lJ0_633 rfl rfl rfl (c_J0_indexOf_7cf53 G i hi c) (by decide) (Nat.le_of_ble_eq_true rfl) ?_
  exact px_iretI dJ0_indexOf_0f7a4_6 rfl ⟨rfl, rfl⟩
