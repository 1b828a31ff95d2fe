/-! THE REFERENCE: text -/
theorem nI_ex (x : Int32) : ∃ a, x = nI a := ⟨x.toBitVec.toNat, by apply Int32.toBitVec_inj.mp; simp [nI]⟩
theorem lay_00 {S : MS} {a s : Nat} (ha : S 24 0 = nI a) (hs : S 26 0 = nI s) : up2 (up2 (up2 (up2 S 25 0 0) 22 0 (-1)) 23 0 0) 21 0 0 = lay S a 0 s (S 27 0) (-1) 0 [] := by
  funext k
  unfold lay
  by_cases e1 : k = 21
  · subst e1; rw [up2_eq]; rfl
  rw [up2_ne e1]
  by_cases e2 : k = 23
  · subst e2; rw [up2_eq]; rfl
  rw [up2_ne e2]
  by_cases e3 : k = 22
  · subst e3; rw [up2_eq]; rfl
  rw [up2_ne e3]
  by_cases e4 : k = 25
  · subst e4; rw [up2_eq]; rfl
  rw [up2_ne e4]
  by_cases e5 : k = 24
  · subst e5; exact (fa_upd_same ha).symm
  by_cases e6 : k = 26
  · subst e6; exact (fa_upd_same hs).symm
  by_cases e7 : k = 27
  · subst e7; exact (fa_upd_same rfl).symm
  by_cases e8 : k = 18
  · subst e8; exact lc_0.symm
  by_cases e9 : k = 19
  · subst e9; exact lc_0.symm
  simp only [e1, e2, e3, e4, e5, e6, e7, e8, e9, if_false]
theorem tA_0 {T : MS} {q : Nat} : tA T q [] = T := by
  unfold tA
  rw [List.map_nil, List.map_nil, cp_0, cp_0, setA_id, setA_id]
theorem tA_s {T : MS} {q : Nat} {l : List (Int32 × Int32)} {x y : Int32} : up2 (up2 (tA T q l) 18 (170 * q + l.length) x) 19 (170 * q + l.length) y = tA T q (l ++ [(x, y)]) := by
  unfold tA
  rw [setA_up_ne (by decide), setA_up, setA_up, List.map_append, List.map_append, show List.map Prod.fst [(x, y)] = [x] from rfl, show List.map Prod.snd [(x, y)] = [y] from rfl, ← cp_s, ← cp_s, List.length_map, List.length_map]
theorem lay_c18 {S : MS} {z : PZ} {i : Nat} (h : i < (zL z).length) : layz S z 18 (1020 + i) = ((zL z)[i]).1 ∧ layz S z 19 (1020 + i) = ((zL z)[i]).2 := by
  constructor
  · show lc (S 18) ((zL z).map Prod.fst) (1020 + i) = _
    unfold lc
    rw [if_pos (by omega), show 1020 + i - 1020 = i by omega, List.getElem?_eq_getElem (by rw [List.length_map]; exact h), List.getElem_map]
    rfl
  · show lc (S 19) ((zL z).map Prod.snd) (1020 + i) = _
    unfold lc
    rw [if_pos (by omega), show 1020 + i - 1020 = i by omega, List.getElem?_eq_getElem (by rw [List.length_map]; exact h), List.getElem_map]
    rfl
set_option maxHeartbeats 4000000 in
set_option maxRecDepth 100000 in
theorem lp_tx1 (G : Gt) (m : Nat) (h0 : Ht) (S : MS) (t : Nat) (z : PZ) (hT : S 15 0 = nI t) (hz : Zi t z) (ho : zO z = 0) (Post : Option Value → MS → Prop) (K : PX G (MPic G m h0) 49 Y12_text 61 [some (.ref m), none] [] (layz (tx S t z 3).1 (tx S t z 3).2) 0 0 Post) : ∀ (kk i : Nat), i ≤ 3 → 4 ≤ i + kk → PX G (MPic G m h0) 49 Y12_text 38 [some (.ref m), some (.int (nI i))] [] (layz (tx S t z i).1 (tx S t z i).2) 0 0 Post := by
  intro kk
  induction kk with
  | zero => intro i h1 h2; omega
  | succ kk ih =>
    intro i hi hk
    have hg := tx_g (S := S) hz ho i
    refine px_iload_n dX12_text_38 rfl rfl ?_
    refine px_iconst (v := 2) dX12_text_39 (by decide) ?_
    refine px_icmp_gt (tgt := 61) dX12_text_40 (by decide) (fun H40 => ?_) (fun H40 => ?_)
    · skip
      have e5 : i = 3 := by have := lt_n (a := 2) (b := i) (by omega) (by omega) H40; omega
      subst e5
      exact px_lw (by simp [LW]) K
    · skip
      have l5 : i < 3 := by have := ge_n (a := 2) (b := i) (by omega) (by omega) H40; omega
      refine px_aload_n dX12_text_43 rfl rfl ?_
      refine mx_getI (k := 22) dX12_text_44 gX12_178 (fun _ => rfl) ?_
      refine px_if_ge (tgt := 61) dX12_text_47 (by decide) (fun H47 => ?_) (fun H47 => ?_)
      · skip
        rw [show layz (tx S t z i).1 (tx S t z i).2 22 0 = zF (tx S t z i).2 from rfl] at H47
        have e6 := tx_st H47 (3 - i)
        rw [show i + (3 - i) = 3 by omega] at e6
        rw [← e6]
        exact px_lw (by simp [LW]) K
      · skip
        rw [show layz (tx S t z i).1 (tx S t z i).2 22 0 = zF (tx S t z i).2 from rfl] at H47
        refine px_aload_n dX12_text_50 rfl rfl ?_
        refine px_iload_n dX12_text_51 rfl rfl ?_
        refine mx_callV1 dX12_text_52 lX12_225 rfl (m_rule G m h0 (tx S t z i).1 t i (tx S t z i).2 l5 (by rw [tx_ne (by decide)]; exact hT) hg.1 (by first | exact H47 | exact Decidable.not_not.mp H47) (by rw [(hg.2.2.2.2 (by first | exact H47 | exact Decidable.not_not.mp H47)).2, ho])) (by omega) (Nat.le_of_ble_eq_true rfl) (fun S52 Q52 => ?_)
        rw [tx_ne (by decide)] at Q52
        obtain rfl := Q52.symm
        refine px_iinc_1 (v := 1) dX12_text_55 (by decide) (by decide) rfl ?_
        refine px_goto (tgt := 38) dX12_text_58 (by decide) ?_
        rw [nI_1]
        refine px_S ?_ (ih (i + 1) (by omega) (by omega))
        have e6 : zF (tx S t z i).2 < 0 := by first | exact H47 | exact Decidable.not_not.mp H47
        rw [tx, if_pos e6]
set_option maxHeartbeats 4000000 in
set_option maxRecDepth 100000 in
theorem lp_tx2 (G : Gt) (m : Nat) (h0 : Ht) (S : MS) (T : MS) (q : Nat) (L : List (Int32 × Int32)) (hq : q < 6) (hL : L.length ≤ 160) (h16 : T 16 0 = nI q) (h21 : T 21 0 = nI L.length) (hc : ∀ (i : Nat) (h : i < L.length), T 18 (1020 + i) = (L[i]).1 ∧ T 19 (1020 + i) = (L[i]).2) (Post : Option Value → MS → Prop) (K : PX G (MPic G m h0) 49 Y12_text 166 [some (.ref m), none] [] (tA T q L) 0 0 Post) : ∀ (kk i : Nat), i ≤ L.length → L.length + 1 ≤ i + kk → PX G (MPic G m h0) 49 Y12_text 102 [some (.ref m), some (.int (nI i))] [] (tA T q (L.take i)) 0 0 Post := by
  intro kk
  induction kk with
  | zero => intro i h1 h2; omega
  | succ kk ih =>
    intro i hi hk
    have e16 : tA T q (L.take i) 16 0 = nI q := h16
    have el : (L.take i).length = i := by rw [List.length_take]; omega
    refine px_iload_n dX12_text_102 rfl rfl ?_
    refine px_aload_n dX12_text_103 rfl rfl ?_
    refine mx_getI (k := 21) dX12_text_104 gX12_181 (fun _ => rfl) ?_
    refine px_icmp_ge (tgt := 166) dX12_text_107 (by decide) (fun H107 => ?_) (fun H107 => ?_)
    · skip
      rw [show tA T q (L.take i) 21 0 = T 21 0 from rfl, h21] at H107
      have e5 : i = L.length := by have := ge_n (by omega) (by omega) H107; omega
      subst e5
      rw [List.take_length]
      exact px_lw (by simp [LW]) K
    · skip
      rw [show tA T q (L.take i) 21 0 = T 21 0 from rfl, h21] at H107
      have l5 : i < L.length := lt_n (by omega) (by omega) H107
      obtain ⟨c1, c2⟩ := hc i l5
      have d1 : tA T q (L.take i) 18 (1020 + i) = (L[i]).1 := by
        show cp (T 18) (170 * q) ((L.take i).map Prod.fst) (1020 + i) = _
        rw [cp_far (by rw [List.length_map]; omega), c1]
      have d2 : tA T q (L.take i) 19 (1020 + i) = (L[i]).2 := by
        show cp (T 19) (170 * q) ((L.take i).map Prod.snd) (1020 + i) = _
        rw [cp_far (by rw [List.length_map]; omega), c2]
      refine px_aload_n dX12_text_110 rfl rfl ?_
      refine mx_getA (k := 18) (j := 12) dX12_text_111 gX12_52 (fun _ => rfl) ?_
      refine px_sipush (v := 170) dX12_text_114 (by decide) ?_
      refine px_aload_n dX12_text_117 rfl rfl ?_
      refine mx_getI (k := 16) dX12_text_118 gX12_48 (fun _ => rfl) ?_
      refine px_imul dX12_text_121 ?_
      refine px_iload_n dX12_text_122 rfl rfl ?_
      refine px_iadd dX12_text_123 ?_
      refine px_aload_n dX12_text_124 rfl rfl ?_
      refine mx_getA (k := 18) (j := 12) dX12_text_125 gX12_52 (fun _ => rfl) ?_
      refine px_sipush (v := 1020) dX12_text_128 (by decide) ?_
      refine px_iload_n dX12_text_131 rfl rfl ?_
      refine px_iadd dX12_text_132 ?_
      refine mx_iald (j := 12) (k := 18) (1020 + i) dX12_text_133 rfl (show (1020 : Int32) + nI i = nI (1020 + i) from by rw [show (1020 : Int32) = nI 1020 from rfl, nI_add]) (by omega) (by decide) ?_
      refine px_top d1 ?_
      refine mx_iast (j := 12) (k := 18) (170 * q + i) dX12_text_134 rfl (by rw [e16, show (170 : Int32) = nI 170 from rfl, pk_mul, nI_add]) (by omega) (by decide) ?_
      refine px_aload_n dX12_text_135 rfl rfl ?_
      refine mx_getA (k := 19) (j := 13) dX12_text_136 gX12_55 (fun _ => rfl) ?_
      refine px_sipush (v := 170) dX12_text_139 (by decide) ?_
      refine px_aload_n dX12_text_142 rfl rfl ?_
      refine mx_getI (k := 16) dX12_text_143 gX12_48 (fun _ => rfl) ?_
      refine px_imul dX12_text_146 ?_
      refine px_iload_n dX12_text_147 rfl rfl ?_
      refine px_iadd dX12_text_148 ?_
      refine px_aload_n dX12_text_149 rfl rfl ?_
      refine mx_getA (k := 19) (j := 13) dX12_text_150 gX12_55 (fun _ => rfl) ?_
      refine px_sipush (v := 1020) dX12_text_153 (by decide) ?_
      refine px_iload_n dX12_text_156 rfl rfl ?_
      refine px_iadd dX12_text_157 ?_
      refine mx_iald (j := 13) (k := 19) (1020 + i) dX12_text_158 rfl (show (1020 : Int32) + nI i = nI (1020 + i) from by rw [show (1020 : Int32) = nI 1020 from rfl, nI_add]) (by omega) (by decide) ?_
      refine px_top (y := (L[i]).2) (by rw [up2_ne (by decide)]; exact d2) ?_
      refine mx_iast (j := 13) (k := 19) (170 * q + i) dX12_text_159 rfl (by rw [up2_ne (by decide), e16, show (170 : Int32) = nI 170 from rfl, pk_mul, nI_add]) (by omega) (by decide) ?_
      refine px_iinc_1 (v := 1) dX12_text_160 (by decide) (by decide) rfl ?_
      refine px_goto (tgt := 102) dX12_text_163 (by decide) ?_
      rw [nI_1]
      refine px_S ?_ (ih (i + 1) (by omega) (by omega))
      have e9 := tA_s (T := T) (q := q) (l := L.take i) (x := (L[i]).1) (y := (L[i]).2)
      rw [el] at e9
      rw [e9, List.take_succ, List.getElem?_eq_getElem l5]
      rfl
set_option maxHeartbeats 4000000 in
set_option maxRecDepth 100000 in
theorem lp_tx3 (G : Gt) (m : Nat) (h0 : Ht) (S : MS) (T : MS) (q : Nat) (hq : q < 6) (h16 : T 16 0 = nI q) (Post : Option Value → MS → Prop) (K : PX G (MPic G m h0) 49 Y12_text 201 [some (.ref m), none] [] (setA T 20 (e3 (T 20) q 3)) 0 0 Post) : ∀ (kk i : Nat), i ≤ 3 → 4 ≤ i + kk → PX G (MPic G m h0) 49 Y12_text 168 [some (.ref m), some (.int (nI i))] [] (setA T 20 (e3 (T 20) q i)) 0 0 Post := by
  intro kk
  induction kk with
  | zero => intro i h1 h2; omega
  | succ kk ih =>
    intro i hi hk
    have e16 : setA T 20 (e3 (T 20) q i) 16 0 = nI q := h16
    refine px_iload_n dX12_text_168 rfl rfl ?_
    refine px_iconst (v := 3) dX12_text_169 (by decide) ?_
    refine px_icmp_ge (tgt := 201) dX12_text_170 (by decide) (fun H170 => ?_) (fun H170 => ?_)
    · skip
      have e5 : i = 3 := by have := ge_n (a := i) (b := 3) (by omega) (by omega) H170; omega
      subst e5
      exact px_lw (by simp [LW]) K
    · skip
      have l5 : i < 3 := lt_n (a := i) (b := 3) (by omega) (by omega) H170
      refine px_aload_n dX12_text_173 rfl rfl ?_
      refine mx_getA (k := 20) (j := 14) dX12_text_174 gX12_58 (fun _ => rfl) ?_
      refine px_iconst (v := 3) dX12_text_177 (by decide) ?_
      refine px_aload_n dX12_text_178 rfl rfl ?_
      refine mx_getI (k := 16) dX12_text_179 gX12_48 (fun _ => rfl) ?_
      refine px_imul dX12_text_182 ?_
      refine px_iload_n dX12_text_183 rfl rfl ?_
      refine px_iadd dX12_text_184 ?_
      refine px_aload_n dX12_text_185 rfl rfl ?_
      refine mx_getA (k := 20) (j := 14) dX12_text_186 gX12_58 (fun _ => rfl) ?_
      refine px_bipush (v := 18) dX12_text_189 (by decide) ?_
      refine px_iload_n dX12_text_191 rfl rfl ?_
      refine px_iadd dX12_text_192 ?_
      refine mx_iald (j := 14) (k := 20) (18 + i) dX12_text_193 rfl (show (18 : Int32) + nI i = nI (18 + i) from by rw [show (18 : Int32) = nI 18 from rfl, nI_add]) (by omega) (by decide) ?_
      refine mx_iast (j := 14) (k := 20) (3 * q + i) dX12_text_194 rfl (by rw [e16, show (3 : Int32) = nI 3 from rfl, pk_mul, nI_add]) (by omega) (by decide) ?_
      refine px_iinc_1 (v := 1) dX12_text_195 (by decide) (by decide) rfl ?_
      refine px_goto (tgt := 168) dX12_text_198 (by decide) ?_
      rw [nI_1]
      refine px_S ?_ (ih (i + 1) (by omega) (by omega))
      rw [setA_up, setA_eq, e3]
def txO (r1 : MS) (r2 : PZ) (q : Nat) : Int32 × MS := if ¬ zF (txW r2) < 0 then (-100 - zF (txW r2), (layz (up2 r1 15 0 0) (txW r2))) else (nI q, up2 (setA (tA (layz (up2 r1 15 0 0) (txW r2)) q (zL (txW r2))) 20 (e3 (tA (layz (up2 r1 15 0 0) (txW r2)) q (zL (txW r2)) 20) q 3)) 16 0 (nI (q + 1)))
theorem f_text_eq {S : MS} {t q : Nat} (hT : S 15 0 = nI t) (ht : t ≤ 160) (hQ : S 16 0 = nI q) (hq : q < 6) : f_text S = txO (tx S t (zN (S 14) t (z00 S)) 3).1 (tx S t (zN (S 14) t (z00 S)) 3).2 q := by
  unfold f_text txO
  rw [if_neg (fun e => by rw [hQ] at e; have := eq_n (b := 6) (by omega) (by omega) e; omega), hT, hQ, nI_clamp (by omega), nI_clamp (by omega)]
set_option maxHeartbeats 4000000 in
set_option maxRecDepth 100000 in
theorem tx_rest (G : Gt) (m : Nat) (h0 : Ht) (S : MS) (r1 : MS) (r2 : PZ) (t q : Nat) (hq : q < 6) (hQ : r1 16 0 = nI q) (hz : Zi t r2) : PX G (MPic G m h0) 49 Y12_text 80 [some (.ref m), none] [] (layz r1 (txW r2)) 0 0 (ri (fun x S' => x = (txO r1 r2 q).1 ∧ S' = (txO r1 r2 q).2)) := by
  have hl2 : (zL (txW r2)).length ≤ 160 := by
    have h1 := hz.1
    have h2 := hz.2.1
    have h3 := hz.2.2.1
    have h4 := hz.2.2.2.1
    have e : zL (txW r2) = zL r2 := by unfold txW; split <;> rfl
    rw [e]
    omega
  have h16 : (layz (up2 r1 15 0 0) (txW r2)) 16 0 = nI q := by
    show up2 r1 15 0 0 16 0 = _
    rw [up2_ne (by decide), hQ]
  refine px_aload_n dX12_text_80 rfl rfl ?_
  refine px_iconst (v := 0) dX12_text_81 (by decide) ?_
  refine mx_putI (k := 15) dX12_text_82 gX12_149 (by decide) rfl rfl ?_
  refine px_S (S' := (layz (up2 r1 15 0 0) (txW r2))) lay_15 ?_
  refine px_aload_n dX12_text_85 rfl rfl ?_
  refine mx_getI (k := 22) dX12_text_86 gX12_178 (fun _ => rfl) ?_
  refine px_if_lt (tgt := 100) dX12_text_89 (by decide) (fun H89 => ?_) (fun H89 => ?_)
  · skip
    rw [show (layz (up2 r1 15 0 0) (txW r2)) 22 0 = zF (txW r2) from rfl] at H89
    refine px_iconst (v := 0) dX12_text_100 (by decide) ?_
    refine px_istore_n1 dX12_text_101 (by decide) rfl ?_
    refine px_S tA_0.symm (lp_tx2 G m h0 S (layz (up2 r1 15 0 0) (txW r2)) q (zL (txW r2)) hq hl2 h16 rfl (fun i h => lay_c18 h) _ ?_ ((zL (txW r2)).length + 1) 0 (by omega) (by omega))
    refine px_iconst (v := 0) dX12_text_166 (by decide) ?_
    refine px_istore_n1 dX12_text_167 (by decide) rfl ?_
    refine px_S (S' := setA (tA (layz (up2 r1 15 0 0) (txW r2)) q (zL (txW r2))) 20 (e3 (tA (layz (up2 r1 15 0 0) (txW r2)) q (zL (txW r2)) 20) q 0)) (by rw [e3, setA_id]) (lp_tx3 G m h0 S (tA (layz (up2 r1 15 0 0) (txW r2)) q (zL (txW r2))) q hq h16 _ ?_ 4 0 (by omega) (by omega))
    refine px_aload_n dX12_text_201 rfl rfl ?_
    refine px_dup dX12_text_202 rfl ?_
    refine mx_getI (k := 16) dX12_text_203 gX12_48 (fun _ => rfl) ?_
    refine px_iconst (v := 1) dX12_text_206 (by decide) ?_
    refine px_iadd dX12_text_207 ?_
    refine mx_putI (k := 16) dX12_text_208 gX12_48 (by decide) rfl rfl ?_
    refine px_S (S' := up2 (setA (tA (layz (up2 r1 15 0 0) (txW r2)) q (zL (txW r2))) 20 (e3 (tA (layz (up2 r1 15 0 0) (txW r2)) q (zL (txW r2)) 20) q 3)) 16 0 (nI (q + 1))) (by rw [show setA (tA (layz (up2 r1 15 0 0) (txW r2)) q (zL (txW r2))) 20 (e3 (tA (layz (up2 r1 15 0 0) (txW r2)) q (zL (txW r2)) 20) q 3) 16 0 = nI q from h16, nI_1]) ?_
    refine px_aload_n dX12_text_211 rfl rfl ?_
    refine mx_getI (k := 16) dX12_text_212 gX12_48 (fun _ => rfl) ?_
    refine px_iconst (v := 1) dX12_text_215 (by decide) ?_
    refine px_isub dX12_text_216 ?_
    refine px_iretI dX12_text_217 rfl ?_
    rw [txO, if_neg (fun h => h H89)]
    exact ⟨by rw [up2_eq, pk_us, nI_pred], rfl⟩
  · skip
    rw [show (layz (up2 r1 15 0 0) (txW r2)) 22 0 = zF (txW r2) from rfl] at H89
    refine px_bipush (v := (-100)) dX12_text_92 (by decide) ?_
    refine px_aload_n dX12_text_94 rfl rfl ?_
    refine mx_getI (k := 22) dX12_text_95 gX12_178 (fun _ => rfl) ?_
    refine px_isub dX12_text_98 ?_
    refine px_iretI dX12_text_99 rfl ?_
    rw [txO, if_pos H89]
    exact ⟨rfl, rfl⟩
set_option maxHeartbeats 4000000 in
set_option maxRecDepth 100000 in
theorem tx_fin (G : Gt) (m : Nat) (h0 : Ht) (S : MS) (r1 : MS) (r2 : PZ) (t q : Nat) (hq : q < 6) (hQ : r1 16 0 = nI q) (hz : Zi t r2) : PX G (MPic G m h0) 49 Y12_text 61 [some (.ref m), none] [] (layz r1 r2) 0 0 (ri (fun x S' => x = (txO r1 r2 q).1 ∧ S' = (txO r1 r2 q).2)) := by
  refine px_aload_n dX12_text_61 rfl rfl ?_
  refine mx_getI (k := 22) dX12_text_62 gX12_178 (fun _ => rfl) ?_
  refine px_if_ge (tgt := 80) dX12_text_65 (by decide) (fun H65 => ?_) (fun H65 => ?_)
  · skip
    rw [show layz r1 r2 22 0 = zF r2 from rfl] at H65
    refine px_S (S' := layz r1 (txW r2)) (by rw [txW, if_neg (fun h => H65 h.1)]) ?_
    exact tx_rest G m h0 S r1 r2 t q hq hQ hz
  · skip
    rw [show layz r1 r2 22 0 = zF r2 from rfl] at H65
    refine px_aload_n dX12_text_68 rfl rfl ?_
    refine mx_getI (k := 26) dX12_text_69 gX12_162 (fun _ => rfl) ?_
    refine px_iconst (v := 4) dX12_text_72 (by decide) ?_
    refine px_icmp_eq (tgt := 80) dX12_text_73 (by decide) (fun H73 => ?_) (fun H73 => ?_)
    · skip
      rw [show layz r1 r2 26 0 = nI (zS r2) from rfl, show (4 : Int32) = nI 4 from rfl, zSq hz.2.2.2.2.2.1 (by omega)] at H73
      refine px_S (S' := layz r1 (txW r2)) (by rw [txW, if_neg (fun h => h.2 H73)]) ?_
      exact tx_rest G m h0 S r1 r2 t q hq hQ hz
    · skip
      rw [show layz r1 r2 26 0 = nI (zS r2) from rfl, show (4 : Int32) = nI 4 from rfl, zSq hz.2.2.2.2.2.1 (by omega)] at H73
      refine px_aload_n dX12_text_76 rfl rfl ?_
      refine mx_callV0 dX12_text_77 lX12_187 rfl (m_wrong G m h0 r1 r2) (by omega) (Nat.le_of_ble_eq_true rfl) (fun S77 Q77 => ?_)
      obtain rfl := Q77.symm
      refine px_S (S' := layz r1 (txW r2)) (by rw [txW, if_pos ⟨by first | exact H65 | exact Decidable.not_not.mp H65, H73⟩]) ?_
      exact tx_rest G m h0 S r1 r2 t q hq hQ hz
theorem z00_i {S : MS} {t : Nat} (ht : t ≤ 160) : Zi t (z00 S) := by
  unfold Zi z00 zA zB zS zF zO zL
  simp [ht]
set_option maxHeartbeats 4000000 in
set_option maxRecDepth 100000 in
theorem tx_all (G : Gt) (m : Nat) (h0 : Ht) (S : MS) (t q : Nat) (z1 : PZ) (hT : S 15 0 = nI t) (hQ : S 16 0 = nI q) (hq : q < 6) (hz1 : Zi t z1) (ho1 : zO z1 = 0) : PX G (MPic G m h0) 49 Y12_text 38 [some (.ref m), some (.int (nI 0))] [] (layz S z1) 0 0 (ri (fun x S' => x = (txO (tx S t z1 3).1 (tx S t z1 3).2 q).1 ∧ S' = (txO (tx S t z1 3).1 (tx S t z1 3).2 q).2)) := by
  have h := lp_tx1 G m h0 S t z1 hT hz1 ho1 _ (tx_fin G m h0 S (tx S t z1 3).1 (tx S t z1 3).2 t q hq (by rw [tx_ne (by decide)]; exact hQ) (tx_g hz1 ho1 3).1) 4 0 (by omega) (by omega)
  rw [show tx S t z1 0 = (S, z1) by rw [tx]] at h
  exact h
set_option maxHeartbeats 4000000 in
set_option maxRecDepth 100000 in
theorem c_X12_text (G : Gt) (m : Nat) (h0 : Ht) (S : MS)  (t q : Nat) (hT : S 15 0 = nI t) (ht : t ≤ 160) (hQ : S 16 0 = nI q) (hq : q ≤ 6) : PC G (MPic G m h0) 49 Y12_text [.ref m] S 0 0 (ri (fun x S' => x = (f_text S).1 ∧ S' = (f_text S).2)) := by
  refine pc_of (ls := [some (.ref m), none]) (by decide +kernel) rfl (Nat.le_of_ble_eq_true rfl) ?_
  refine px_aload_n dX12_text_0 rfl rfl ?_
  refine mx_getI (k := 16) dX12_text_1 gX12_48 (fun _ => rfl) ?_
  refine px_bipush (v := 6) dX12_text_4 (by decide) ?_
  refine px_icmp_ne (tgt := 12) dX12_text_6 (by decide) (fun H6 => ?_) (fun H6 => ?_)
  · skip
    have hq6 : q < 6 := by
      rcases Nat.lt_or_ge q 6 with h | h
      · exact h
      · exact absurd (by rw [hQ, show q = 6 by omega]; rfl) H6
    refine px_aload_n dX12_text_12 rfl rfl ?_
    refine px_iconst (v := 0) dX12_text_13 (by decide) ?_
    refine mx_putI (k := 25) dX12_text_14 gX12_152 (by decide) rfl rfl ?_
    refine px_aload_n dX12_text_17 rfl rfl ?_
    refine px_iconst (v := (-1)) dX12_text_18 (by decide) ?_
    refine mx_putI (k := 22) dX12_text_19 gX12_178 (by decide) rfl rfl ?_
    refine px_aload_n dX12_text_22 rfl rfl ?_
    refine px_iconst (v := 0) dX12_text_23 (by decide) ?_
    refine mx_putI (k := 23) dX12_text_24 gX12_184 (by decide) rfl rfl ?_
    refine px_aload_n dX12_text_27 rfl rfl ?_
    refine px_iconst (v := 0) dX12_text_28 (by decide) ?_
    refine mx_putI (k := 21) dX12_text_29 gX12_181 (by decide) rfl rfl ?_
    obtain ⟨a0, ha0⟩ := nI_ex (S 24 0)
    obtain ⟨s0, hs0⟩ := nI_ex (S 26 0)
    refine px_S (lay_00 ha0 hs0) ?_
    refine px_aload_n dX12_text_32 rfl rfl ?_
    refine mx_callV0 dX12_text_33 lX12_190 rfl (c_X12_next G m h0 S a0 s0 (-1) 0 [] t 0 (S 27 0) hT ht (Nat.zero_le _)) (by decide) (Nat.le_of_ble_eq_true rfl) (fun S33 Q33 => ?_)
    obtain rfl := Q33.symm
    refine px_S (S' := layz S (zN (S 14) t (z00 S))) rfl ?_
    rw [f_text_eq hT ht hQ hq6]
    have hz1 : Zi t (zN (S 14) t (z00 S)) := zN_i (z00_i ht)
    have ho1 : zO (zN (S 14) t (z00 S)) = 0 := rfl
    generalize (zN (S 14) t (z00 S)) = z1 at hz1 ho1 ⊢
    refine px_iconst (v := 0) dX12_text_36 (by decide) ?_
    refine px_istore_n1 dX12_text_37 (by decide) rfl ?_
    exact tx_all G m h0 S t q z1 hT hQ hq6 hz1 ho1
  · skip
    refine px_bipush (v := (-4)) dX12_text_9 (by decide) ?_
    refine px_iretI dX12_text_11 rfl ?_
    rw [f_text, if_pos H6]
    exact ⟨rfl, rfl⟩
