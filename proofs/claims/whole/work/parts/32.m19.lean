/-! THE REFERENCE: hanks -/
theorem l2i_n {x : Int64} {q : Nat} (h : x.toInt = (q : Int)) (hq : q ≤ 1000) : x.toInt32 = nI q := by
  apply Int32.toInt_inj.mp
  rw [Int64.toInt_toInt32, h, nI_toInt' (by omega), Int.bmod_def]
  omega
theorem l_add2 {x : Int64} (h1 : -(2 ^ 40) < x.toInt) (h2 : x.toInt < 2 ^ 40) : (x + 2).toInt = x.toInt + 2 := by
  have e : (2 : Int64).toInt = 2 := by decide
  rw [fb_addL] <;> rw [e] <;> omega
/-- rows of three items: hanks that come -/
def hkG (a : Nat) (z : Int) : Nat → Nat → Int32 → MS → Int32 × MS
  | 0, _, c, S => (c, S)
  | n + 1, i, c, S => if z + 3 * (i : Int) < 0 ∨ (S 49 a).toInt ≤ z + 3 * (i : Int) + 2 then (-12, S) else
    hkG a z n (i + 1) (if (f_hank S (S 50 (40 * a + (z + 3 * (i : Int)).toNat)) (S 50 (40 * a + (z + 3 * (i : Int)).toNat + 1)) (S 50 (40 * a + (z + 3 * (i : Int)).toNat + 2))).1 < 0 then c else c + 1) (f_hank S (S 50 (40 * a + (z + 3 * (i : Int)).toNat)) (S 50 (40 * a + (z + 3 * (i : Int)).toNat + 1)) (S 50 (40 * a + (z + 3 * (i : Int)).toNat + 2))).2
def f_hanks (S : MS) (s sort z n : Int32) : Int32 × MS := if mIn s 0 3 = 0 ∨ mIn sort 0 2 = 0 ∨ mIn n 0 12 = 0 then (-2, S) else if ¬ S 48 s.toNatClampNeg < 0 ∧ ¬ S 48 s.toNatClampNeg = sort then (-13, S) else if S 48 s.toNatClampNeg < 0 then (-11, S) else hkG s.toNatClampNeg z.toInt n.toNatClampNeg 0 0 S
theorem f_hank_h {S : MS} {o s v : Int32} {n : Nat} (hH : S 1 0 = nI n) (hn : n ≤ 6) : ∃ n', n' ≤ 6 ∧ (f_hank S o s v).2 1 0 = nI n' := by
  unfold f_hank
  split
  · exact ⟨n, hn, hH⟩
  · split
    · exact ⟨n, hn, hH⟩
    · rename_i h
      refine ⟨n + 1, ?_, ?_⟩
      · rcases Nat.lt_or_ge n 6 with q | q
        · omega
        · exact absurd (by rw [hH, show n = 6 by omega]; rfl) h
      · simp only [up2_eq, pk_us, hH, nI_1]
theorem f_hank_ne {S : MS} {o s v : Int32} {k : Nat} (h1 : k ≠ 1) (h2 : k ≠ 2) (h3 : k ≠ 3) (h4 : k ≠ 4) : (f_hank S o s v).2 k = S k := by
  unfold f_hank
  split
  · rfl
  · split
    · rfl
    · show up2 _ 1 0 _ k = _
      rw [up2_ne h1, up2_ne h4, up2_ne h3, up2_ne h2]
set_option maxHeartbeats 4000000 in
set_option maxRecDepth 100000 in
theorem lp_hk (G : Gt) (m : Nat) (h0 : Ht) (S : MS) (a q : Nat) (sort z : Int32) (ha : a ≤ 3) (hq : q ≤ 12) : ∀ (kk i : Nat) (c : Int32) (T : MS), (∃ n, n ≤ 6 ∧ T 1 0 = nI n) → (∃ w, w ≤ 40 ∧ T 49 a = nI w) → i ≤ q → q + 1 ≤ i + kk → PX G (MPic G m h0) 4 Y12_hanks 70 [some (.ref m), some (.int (nI a)), some (.int sort), some (.int z), some (.int (nI q)), some (.int c), some (.int (nI i)), none, none, none] [] T 0 0 (ri (fun x S' => x = (hkG a z.toInt (q - i) i c T).1 ∧ S' = (hkG a z.toInt (q - i) i c T).2)) := by
  intro kk
  induction kk with
  | zero => intro i c T h1 h2 h3 h4; omega
  | succ kk ih =>
    intro i c T hH hW hi hk
    obtain ⟨w, hw, eW⟩ := hW
    obtain ⟨n, hn, eH⟩ := hH
    refine px_iload dX12_hanks_70 rfl ?_
    refine px_iload dX12_hanks_72 rfl ?_
    refine px_icmp_ge (tgt := 165) dX12_hanks_74 (by decide) (fun H74 => ?_) (fun H74 => ?_)
    · skip
      have e5 : i = q := by have := ge_n (by omega) (by omega) H74; omega
      subst e5
      refine px_iload dX12_hanks_165 rfl ?_
      refine px_iretI dX12_hanks_167 rfl ?_
      rw [Nat.sub_self, hkG]
      exact ⟨rfl, rfl⟩
    · skip
      have l5 : i < q := lt_n (by omega) (by omega) H74
      have es : q - i = (q - (i + 1)) + 1 := by omega
      have rz := fb_rng z
      have e3 : ((3 : Int32) * nI i) = nI (3 * i) := by rw [show (3 : Int32) = nI 3 from rfl, pk_mul]
      have kI : (z.toInt64 + ((3 : Int32) * nI i).toInt64).toInt = z.toInt + 3 * (i : Int) := by rw [l_add, e3, tIn (by omega)]; omega
      have k2 : (z.toInt64 + ((3 : Int32) * nI i).toInt64 + 2).toInt = z.toInt + 3 * (i : Int) + 2 := by rw [l_add2 (by omega) (by omega), kI]
      refine px_iload_n dX12_hanks_77 rfl rfl ?_
      refine px_i2l dX12_hanks_78 ?_
      refine px_iconst (v := 3) dX12_hanks_79 (by decide) ?_
      refine px_iload dX12_hanks_80 rfl ?_
      refine px_imul dX12_hanks_82 ?_
      refine px_i2l dX12_hanks_83 ?_
      refine px_ladd dX12_hanks_84 ?_
      refine px_lstore_7 dX12_hanks_85 (by decide) rfl ?_
      refine px_lload dX12_hanks_87 rfl ?_
      refine px_lconst (v := 0) dX12_hanks_89 (by decide) ?_
      refine px_lcmp dX12_hanks_90 ?_
      refine px_if_lt (tgt := 111) dX12_hanks_91 (by decide) (fun H91 => ?_) (fun H91 => ?_)
      · skip
        rw [lcmp_lt, kI, show (0 : Int64).toInt = 0 by decide] at H91
        refine px_bipush (v := (-12)) dX12_hanks_111 (by decide) ?_
        refine px_iretI dX12_hanks_113 rfl ?_
        rw [es, hkG]
        first
        | (rw [if_pos (Or.inl H91)]; exact ⟨rfl, rfl⟩)
        | (rw [if_pos (Or.inr (by omega))]; exact ⟨rfl, rfl⟩)
      · skip
        rw [lcmp_lt, kI, show (0 : Int64).toInt = 0 by decide] at H91
        refine px_lload dX12_hanks_94 rfl ?_
        refine px_ldc2 (v := 2) dX12_hanks_96 (tb_7 34 rfl rfl) ?_
        refine px_ladd dX12_hanks_99 ?_
        refine px_aload_n dX12_hanks_100 rfl rfl ?_
        refine mx_getA (k := 49) (j := 26) dX12_hanks_101 gX12_94 (fun _ => rfl) ?_
        refine px_iload_n dX12_hanks_104 rfl rfl ?_
        refine mx_iald (j := 26) (k := 49) _ dX12_hanks_105 rfl rfl (by omega) (by decide) ?_
        refine px_i2l dX12_hanks_106 ?_
        refine px_lcmp dX12_hanks_107 ?_
        refine px_if_lt (tgt := 114) dX12_hanks_108 (by decide) (fun H108 => ?_) (fun H108 => ?_)
        · skip
          rw [lcmp_lt, k2, Int32.toInt_toInt64] at H108
          have H8 := H108
          rw [eW, tIn (by omega)] at H8
          obtain ⟨p, hp⟩ : ∃ p : Nat, z.toInt + 3 * (i : Int) = (p : Int) := ⟨((z.toInt + 3 * (i : Int)).toNat), by omega⟩
          have hp2 : p + 2 < 40 := by omega
          have hE : ((z.toInt + 3 * (i : Int)).toNat) = p := by omega
          have ix := l2i_n (kI.trans hp) (by omega)
          have i0 : (40 : Int32) * nI a + (z.toInt64 + ((3 : Int32) * nI i).toInt64).toInt32 = nI (40 * a + p) := by rw [ix, show (40 : Int32) = nI 40 from rfl, pk_mul, nI_add]
          refine px_bipush (v := 40) dX12_hanks_114 (by decide) ?_
          refine px_iload_n dX12_hanks_116 rfl rfl ?_
          refine px_imul dX12_hanks_117 ?_
          refine px_lload dX12_hanks_118 rfl ?_
          refine px_l2i dX12_hanks_120 ?_
          refine px_iadd dX12_hanks_121 ?_
          refine px_top i0 ?_
          refine px_istore_9 dX12_hanks_122 (by decide) rfl ?_
          refine px_aload_n dX12_hanks_124 rfl rfl ?_
          refine px_aload_n dX12_hanks_125 rfl rfl ?_
          refine mx_getA (k := 50) (j := 27) dX12_hanks_126 gX12_97 (fun _ => rfl) ?_
          refine px_iload dX12_hanks_129 rfl ?_
          refine mx_iald (j := 27) (k := 50) (40 * a + p) dX12_hanks_131 rfl rfl (by omega) (by decide) ?_
          refine px_aload_n dX12_hanks_132 rfl rfl ?_
          refine mx_getA (k := 50) (j := 27) dX12_hanks_133 gX12_97 (fun _ => rfl) ?_
          refine px_iload dX12_hanks_136 rfl ?_
          refine px_iconst (v := 1) dX12_hanks_138 (by decide) ?_
          refine px_iadd dX12_hanks_139 ?_
          refine mx_iald (j := 27) (k := 50) (40 * a + p + 1) dX12_hanks_140 rfl (show nI (40 * a + p) + nI 1 = nI (40 * a + p + 1) from nI_add ..) (by omega) (by decide) ?_
          refine px_aload_n dX12_hanks_141 rfl rfl ?_
          refine mx_getA (k := 50) (j := 27) dX12_hanks_142 gX12_97 (fun _ => rfl) ?_
          refine px_iload dX12_hanks_145 rfl ?_
          refine px_iconst (v := 2) dX12_hanks_147 (by decide) ?_
          refine px_iadd dX12_hanks_148 ?_
          refine mx_iald (j := 27) (k := 50) (40 * a + p + 2) dX12_hanks_149 rfl (show nI (40 * a + p) + nI 2 = nI (40 * a + p + 2) from nI_add ..) (by omega) (by decide) ?_
          refine mx_callI3 dX12_hanks_150 lX12_328 rfl (c_X12_hank G m h0 T (T 50 (40 * a + p)) (T 50 (40 * a + p + 1)) (T 50 (40 * a + p + 2)) n eH hn) (by decide) (Nat.le_of_ble_eq_true rfl) (fun x150 S150 Q150 => ?_)
          obtain ⟨rfl, e150⟩ := Q150
          obtain rfl := e150.symm
          have hG2 : hkG a z.toInt (q - i) i c T = hkG a z.toInt (q - (i + 1)) (i + 1) (if (f_hank T (T 50 (40 * a + p)) (T 50 (40 * a + p + 1)) (T 50 (40 * a + p + 2))).1 < 0 then c else c + 1) (f_hank T (T 50 (40 * a + p)) (T 50 (40 * a + p + 1)) (T 50 (40 * a + p + 2))).2 := by
            rw [es, hkG, if_neg (by rintro (h | h) <;> omega), hE]
          rw [hG2]
          refine px_if_lt (tgt := 159) dX12_hanks_153 (by decide) (fun H153 => ?_) (fun H153 => ?_)
          · skip
            refine px_iinc_6 (v := 1) dX12_hanks_159 (by decide) (by decide) rfl ?_
            refine px_goto (tgt := 70) dX12_hanks_162 (by decide) ?_
            rw [nI_1]
            simp only [H153, if_true, if_false]
            exact px_lw (by simp [LW]) (ih (i + 1) _ _ (f_hank_h eH hn) ⟨w, hw, by rw [f_hank_ne (by decide) (by decide) (by decide) (by decide)]; exact eW⟩ (by omega) (by omega))
          · skip
            refine px_iinc_5 (v := 1) dX12_hanks_156 (by decide) (by decide) rfl ?_
            refine px_iinc_6 (v := 1) dX12_hanks_159 (by decide) (by decide) rfl ?_
            refine px_goto (tgt := 70) dX12_hanks_162 (by decide) ?_
            rw [nI_1]
            simp only [H153, if_true, if_false]
            exact px_lw (by simp [LW]) (ih (i + 1) _ _ (f_hank_h eH hn) ⟨w, hw, by rw [f_hank_ne (by decide) (by decide) (by decide) (by decide)]; exact eW⟩ (by omega) (by omega))
        · skip
          rw [lcmp_lt, k2, Int32.toInt_toInt64] at H108
          refine px_bipush (v := (-12)) dX12_hanks_111 (by decide) ?_
          refine px_iretI dX12_hanks_113 rfl ?_
          rw [es, hkG]
          first
          | (rw [if_pos (Or.inl H91)]; exact ⟨rfl, rfl⟩)
          | (rw [if_pos (Or.inr (by omega))]; exact ⟨rfl, rfl⟩)
set_option maxHeartbeats 4000000 in
set_option maxRecDepth 100000 in
theorem c_X12_hanks (G : Gt) (m : Nat) (h0 : Ht) (S : MS) (s sort z n : Int32) (hZ : ∀ j, j ≤ 3 → ∃ q, q ≤ 40 ∧ S 49 j = nI q) (hH : ∃ n, n ≤ 6 ∧ S 1 0 = nI n) : PC G (MPic G m h0) 4 Y12_hanks [.ref m, .int s, .int sort, .int z, .int n] S 0 0 (ri (fun x S' => x = (f_hanks S s sort z n).1 ∧ S' = (f_hanks S s sort z n).2)) := by
  refine pc_of (ls := [some (.ref m), some (.int s), some (.int sort), some (.int z), some (.int n), none, none, none, none, none]) (by decide +kernel) rfl (Nat.le_of_ble_eq_true rfl) ?_
  refine px_iload_n dX12_hanks_0 rfl rfl ?_
  refine px_pure1 dX12_hanks_1 lX12_323 (c_X12_isSheet G _) (by decide) (Nat.le_of_ble_eq_true rfl) ?_
  refine px_if_eq (tgt := 27) dX12_hanks_4 (by decide) (fun H4 => ?_) (fun H4 => ?_)
  · skip
    refine px_bipush (v := (-2)) dX12_hanks_27 (by decide) ?_
    refine px_iretI dX12_hanks_29 rfl ?_
    first | exact absurd H58 H36 | exact ⟨by simp [f_hanks, *], Eq.symm (by simp [f_hanks, *])⟩
  · skip
    refine px_iload_n dX12_hanks_7 rfl rfl ?_
    refine px_iconst (v := 0) dX12_hanks_8 (by decide) ?_
    refine px_iconst (v := 2) dX12_hanks_9 (by decide) ?_
    refine px_pure3 dX12_hanks_10 lX12_109 (c_X12_in G _ _ _) (by decide) (Nat.le_of_ble_eq_true rfl) ?_
    refine px_if_eq (tgt := 27) dX12_hanks_13 (by decide) (fun H13 => ?_) (fun H13 => ?_)
    · skip
      refine px_bipush (v := (-2)) dX12_hanks_27 (by decide) ?_
      refine px_iretI dX12_hanks_29 rfl ?_
      first | exact absurd H58 H36 | exact ⟨by simp [f_hanks, *], Eq.symm (by simp [f_hanks, *])⟩
    · skip
      refine px_iload dX12_hanks_16 rfl ?_
      refine px_iconst (v := 0) dX12_hanks_18 (by decide) ?_
      refine px_bipush (v := 12) dX12_hanks_19 (by decide) ?_
      refine px_pure3 dX12_hanks_21 lX12_109 (c_X12_in G _ _ _) (by decide) (Nat.le_of_ble_eq_true rfl) ?_
      refine px_if_ne (tgt := 30) dX12_hanks_24 (by decide) (fun H24 => ?_) (fun H24 => ?_)
      · skip
        obtain ⟨a, ha, rfl⟩ := in_of (n := 3) rfl (by omega) H4
        have ta : (nI a).toNatClampNeg = a := nI_clamp (by omega)
        obtain ⟨q, hq, rfl⟩ := in_of (n := 12) rfl (by omega) H24
        have tq : (nI q).toNatClampNeg = q := nI_clamp (by omega)
        refine px_aload_n dX12_hanks_30 rfl rfl ?_
        refine mx_getA (k := 48) (j := 25) dX12_hanks_31 gX12_91 (fun _ => rfl) ?_
        refine px_iload_n dX12_hanks_34 rfl rfl ?_
        refine mx_iald (j := 25) (k := 48) _ dX12_hanks_35 rfl rfl (by omega) (by decide) ?_
        refine px_if_lt (tgt := 52) dX12_hanks_36 (by decide) (fun H36 => ?_) (fun H36 => ?_)
        · skip
          refine px_aload_n dX12_hanks_52 rfl rfl ?_
          refine mx_getA (k := 48) (j := 25) dX12_hanks_53 gX12_91 (fun _ => rfl) ?_
          refine px_iload_n dX12_hanks_56 rfl rfl ?_
          refine mx_iald (j := 25) (k := 48) _ dX12_hanks_57 rfl rfl (by omega) (by decide) ?_
          refine px_if_ge (tgt := 64) dX12_hanks_58 (by decide) (fun H58 => ?_) (fun H58 => ?_)
          · skip
            exact absurd H36 H58
          · skip
            refine px_bipush (v := (-11)) dX12_hanks_61 (by decide) ?_
            refine px_iretI dX12_hanks_63 rfl ?_
            exact ⟨by simp [f_hanks, *], Eq.symm (by simp [f_hanks, *])⟩
        · skip
          refine px_aload_n dX12_hanks_39 rfl rfl ?_
          refine mx_getA (k := 48) (j := 25) dX12_hanks_40 gX12_91 (fun _ => rfl) ?_
          refine px_iload_n dX12_hanks_43 rfl rfl ?_
          refine mx_iald (j := 25) (k := 48) _ dX12_hanks_44 rfl rfl (by omega) (by decide) ?_
          refine px_iload_n dX12_hanks_45 rfl rfl ?_
          refine px_icmp_eq (tgt := 52) dX12_hanks_46 (by decide) (fun H46 => ?_) (fun H46 => ?_)
          · skip
            subst H46
            refine px_aload_n dX12_hanks_52 rfl rfl ?_
            refine mx_getA (k := 48) (j := 25) dX12_hanks_53 gX12_91 (fun _ => rfl) ?_
            refine px_iload_n dX12_hanks_56 rfl rfl ?_
            refine mx_iald (j := 25) (k := 48) _ dX12_hanks_57 rfl rfl (by omega) (by decide) ?_
            refine px_if_ge (tgt := 64) dX12_hanks_58 (by decide) (fun H58 => ?_) (fun H58 => ?_)
            · skip
              refine px_iconst (v := 0) dX12_hanks_64 (by decide) ?_
              refine px_istore_5 dX12_hanks_65 (by decide) rfl ?_
              refine px_iconst (v := 0) dX12_hanks_67 (by decide) ?_
              refine px_istore_6 dX12_hanks_68 (by decide) rfl ?_
              have hR : f_hanks S (nI a) (S 48 a) z (nI q) = hkG a z.toInt (q - 0) 0 0 S := by simp [f_hanks, *]
              rw [hR]
              exact px_lw (by simp [LW, nI_0]) (lp_hk G m h0 S a q (S 48 a) z ha hq (q + 1) 0 0 S hH (hZ a ha) (by omega) (by omega))
            · skip
              refine px_bipush (v := (-11)) dX12_hanks_61 (by decide) ?_
              refine px_iretI dX12_hanks_63 rfl ?_
              first | exact absurd H58 H36 | exact ⟨by simp [f_hanks, *], Eq.symm (by simp [f_hanks, *])⟩
          · skip
            refine px_bipush (v := (-13)) dX12_hanks_49 (by decide) ?_
            refine px_iretI dX12_hanks_51 rfl ?_
            first | exact absurd H58 H36 | exact ⟨by simp [f_hanks, *], Eq.symm (by simp [f_hanks, *])⟩
      · skip
        refine px_bipush (v := (-2)) dX12_hanks_27 (by decide) ?_
        refine px_iretI dX12_hanks_29 rfl ?_
        first | exact absurd H58 H36 | exact ⟨by simp [f_hanks, *], Eq.symm (by simp [f_hanks, *])⟩
