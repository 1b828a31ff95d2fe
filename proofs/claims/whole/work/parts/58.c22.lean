/-! THE CLASS: step -/
theorem sg_all : ∀ n, n < 256 → ((¬ ixO 1 (((nI n).toInt8.toInt32 &&& 255).toUInt32 % 65536).toInt32 < 0 ↔ isSg (nI n).toInt8.toInt32 = true) ∧ (isSg (nI n).toInt8.toInt32 = true → (nI n).toInt8.toInt32 &&& 255 = (nI n).toInt8.toInt32)) := by decide +kernel
theorem sg_by {x : Int32} (h : x.toInt8.toInt32 = x) : ∃ n, n < 256 ∧ x = (nI n).toInt8.toInt32 := by
  refine ⟨x.toInt8.toBitVec.toNat, x.toInt8.toBitVec.isLt, ?_⟩
  conv => lhs; rw [← h]
  congr 1
  apply Int8.toBitVec_inj.mp
  apply BitVec.eq_of_toNat_eq
  have hl := x.toInt8.toBitVec.isLt
  generalize x.toInt8.toBitVec.toNat = n at hl ⊢
  have e : (nI n).toInt8.toBitVec = BitVec.signExtend 8 (BitVec.ofNat 32 n) := Int32.toBitVec_toInt8 (nI n)
  rw [e, BitVec.signExtend_eq_setWidth_of_le _ (by decide), BitVec.toNat_setWidth, BitVec.toNat_ofNat]
  omega
theorem sg_x {x : Int32} (h : x.toInt8.toInt32 = x) : (¬ ixO 1 ((x &&& 255).toUInt32 % 65536).toInt32 < 0 ↔ isSg x = true) ∧ (isSg x = true → x &&& 255 = x) := by
  obtain ⟨n, hn, rfl⟩ := sg_by h
  exact sg_all n hn
/-- the token of the class: its number -/
def tkC (tp : Nat → Int32) (t b : Nat) : Int32 := if lxA tp t b < t then (if ltr tp (lxA tp t b) = true then tkW tp (lxA tp t b) (lxB tp t b) else if dgt tp (lxA tp t b) = true then (if 4 < lxB tp t b - lxA tp t b then 1 else 2) else if isSg (tp (lxA tp t b)) = true then tp (lxA tp t b) else 1) else 0
def STP (t b : Nat) (S S' : MS) : Prop := fr [62] S S' ∧ S' 62 0 = S 62 0 ∧ S' 62 5 = S 62 5 ∧ S' 62 6 = S 62 6 ∧ S' 62 2 = nI (lxA (S 14) t b) ∧ S' 62 3 = nI (lxB (S 14) t b) ∧ S' 62 1 = tkC (S 14) t b ∧ (lxA (S 14) t b < t → ltr (S 14) (lxA (S 14) t b) = false → dgt (S 14) (lxA (S 14) t b) = true → S' 62 4 = cnv (S 14) (lxA (S 14) t b) (lxB (S 14) t b - lxA (S 14) t b))
theorem dgt_ltr {tp : Nat → Int32} {i : Nat} (h : dgt tp i = true) : ltr tp i = false := by
  unfold dgt ltr at *
  simp only [decide_eq_true_eq, decide_eq_false_iff_not, Decidable.not_not] at *
  obtain ⟨h1, h2⟩ := mIn_1.mp h
  rw [mIn_0]
  rw [i_lt, show (57 : Int32).toInt = 57 from rfl] at h2
  left
  rw [i_lt, show (97 : Int32).toInt = 97 from rfl]
  omega
set_option maxHeartbeats 400000 in
set_option maxRecDepth 100000 in
theorem c_X7_step (G : Gt) (m : Nat → Prop) (M0 : Nat → va_E) (Q : Qt) (S : MS) (t b : Nat) (hck : CKI G) (hb : S 62 3 = nI b) (ht : S 15 0 = nI t) (hbt : b ≤ t) (ht1 : t ≤ 160) (hby : ∀ i, (S 14 i).toInt8.toInt32 = S 14 i) : PC G (CPic G m M0 Q) 7 Y7_step [.ref (Q.1 9 0)] S 0 0 (rv (fun S' => STP t b S S')) := by
  have hA := rn_le (Pr := blk (S 14)) (t := t) (t - b) b (by omega) (by omega)
  obtain ⟨A, eA⟩ : ∃ A, lxA (S 14) t b = A := ⟨_, rfl⟩
  have eA' : rn (blk (S 14)) t b = A := eA
  rw [eA'] at hA
  refine pc_of (ls := [some (.ref (Q.1 9 0)), none]) (by decide +kernel) rfl (Nat.le_of_ble_eq_true rfl) ?_
  refine px_aload_n dX7_step_0 rfl rfl ?_
  refine px_aload_n dX7_step_1 rfl rfl ?_
  refine cx_get (k := 9) (i := 0) (f := 5) dX7_step_2 gX7_26 rfl Nat.one_pos rfl ?_
  refine cx_put (k := 9) (i := 0) (f := 4) (r := 62) (j := 2) dX7_step_5 gX7_95 rfl Nat.one_pos (Nat.le_of_ble_eq_true rfl) (by decide) rfl (cpe_9_4 0 _) rfl rfl ?_
  rw [hb]
  refine lp_st1 G m M0 Q S t A none ht ht1 _ ?_ (t + 1) b (by omega) (by omega) eA'
  refine px_aload_n dX7_step_47 rfl rfl ?_
  refine px_aload_n dX7_step_48 rfl rfl ?_
  refine cx_get (k := 9) (i := 0) (f := 4) dX7_step_49 gX7_95 rfl Nat.one_pos rfl ?_
  refine px_iconst (v := 1) dX7_step_52 (by decide) ?_
  refine px_iadd dX7_step_53 ?_
  refine cx_put (k := 9) (i := 0) (f := 5) (r := 62) (j := 3) dX7_step_54 gX7_26 rfl Nat.one_pos (Nat.le_of_ble_eq_true rfl) (by decide) rfl (cpe_9_5 0 _) rfl rfl ?_
  rw [u2s, nI_1]
  obtain ⟨T, hT⟩ : ∃ T, T = up2 (up2 S 62 2 (nI A)) 62 3 (nI (A + 1)) := ⟨_, rfl⟩
  have T2 : T 62 2 = nI A := by rw [hT]; simp [up2, upd]
  have T3 : T 62 3 = nI (A + 1) := by rw [hT]; simp [up2, upd]
  have T0 : T 62 0 = S 62 0 := by rw [hT]; simp [up2, upd]
  have T5 : T 62 5 = S 62 5 := by rw [hT]; simp [up2, upd]
  have T6 : T 62 6 = S 62 6 := by rw [hT]; simp [up2, upd]
  have Tf : fr [62] S T := by rw [hT]; exact (fr.rf.up List.mem_cons_self).up List.mem_cons_self
  have T14 : T 14 = S 14 := Tf 14 (by decide)
  have T15 : T 15 0 = nI t := by rw [Tf 15 (by decide)]; exact ht
  rw [← hT]
  refine px_aload_n dX7_step_57 rfl rfl ?_
  refine cx_get (k := 9) (i := 0) (f := 4) dX7_step_58 gX7_95 rfl Nat.one_pos rfl ?_
  refine px_aload_n dX7_step_61 rfl rfl ?_
  refine cx_get (k := 9) (i := 0) (f := 1) dX7_step_62 gX7_19 rfl Nat.one_pos rfl ?_
  refine px_icmp_lt (tgt := 84) dX7_step_65 (by decide) (fun H65 => ?_) (fun H65 => ?_)
  · skip
    rw [T2, T15] at H65
    have lt : A < t := lt_n (a := A) (b := t) (by omega) (by omega) H65
    refine px_aload_n dX7_step_84 rfl rfl ?_
    refine cx_get (k := 9) (i := 0) (f := 2) dX7_step_85 gX7_11 rfl Nat.one_pos rfl ?_
    refine px_aload_n dX7_step_88 rfl rfl ?_
    refine cx_get (k := 9) (i := 0) (f := 4) dX7_step_89 gX7_95 rfl Nat.one_pos rfl ?_
    refine cx_bald (k := 10) (i := 0) (r := 14) (A) dX7_step_92 rfl Nat.one_pos T2 (by omega) (by decide) ?_
    refine px_pure1 dX7_step_93 lX7_101 (c_X7_isDigit G _) (by decide) (Nat.le_of_ble_eq_true rfl) ?_
    refine px_if_eq (tgt := 106) dX7_step_96 (by decide) (fun H96 => ?_) (fun H96 => ?_)
    · skip
      rw [T14, dgt_b] at H96
      refine px_aload_n dX7_step_106 rfl rfl ?_
      refine cx_get (k := 9) (i := 0) (f := 2) dX7_step_107 gX7_11 rfl Nat.one_pos rfl ?_
      refine px_aload_n dX7_step_110 rfl rfl ?_
      refine cx_get (k := 9) (i := 0) (f := 4) dX7_step_111 gX7_95 rfl Nat.one_pos rfl ?_
      refine cx_bald (k := 10) (i := 0) (r := 14) (A) dX7_step_114 rfl Nat.one_pos T2 (by omega) (by decide) ?_
      refine px_pure1 dX7_step_115 lX7_107 (c_X7_isLetter G _) (by decide) (Nat.le_of_ble_eq_true rfl) ?_
      refine px_if_eq (tgt := 128) dX7_step_118 (by decide) (fun H118 => ?_) (fun H118 => ?_)
      · skip
        rw [T14, ltr_b] at H118
        refine px_aload_n dX7_step_128 rfl rfl ?_
        refine cx_get (k := 9) (i := 0) (f := 2) dX7_step_129 gX7_11 rfl Nat.one_pos rfl ?_
        refine px_aload_n dX7_step_132 rfl rfl ?_
        refine cx_get (k := 9) (i := 0) (f := 4) dX7_step_133 gX7_95 rfl Nat.one_pos rfl ?_
        refine cx_bald (k := 10) (i := 0) (r := 14) (A) dX7_step_136 rfl Nat.one_pos T2 (by omega) (by decide) ?_
        refine px_sipush (v := 255) dX7_step_137 (by decide) ?_
        refine px_iand dX7_step_140 ?_
        refine px_istore_n1 dX7_step_141 (by decide) rfl ?_
        refine px_aload_n dX7_step_142 rfl rfl ?_
        refine px_signs dX7_step_143 rfl rfl ?_
        refine px_iload_n dX7_step_145 rfl rfl ?_
        refine px_i2c dX7_step_146 ?_
        refine px_kcall (i := 1) (av := [.int _]) (by decide) dX7_step_147 lX7_115 rfl rfl rfl (c_J0_indexOf_0f7a4 G 1 (by decide) _) (by decide) (Nat.le_of_ble_eq_true rfl) ?_
        refine px_if_lt (tgt := 157) dX7_step_150 (by decide) (fun H150 => ?_) (fun H150 => ?_)
        · skip
          rw [T14] at H150
          obtain ⟨sg1, sg2⟩ := sg_x (hby A)
          have nd : dgt (S 14) A = false := by simpa using H96
          have nl : ltr (S 14) A = false := by simpa using H118
          have eB : lxB (S 14) t b = A + 1 := by rw [lxB, eA, if_pos lt, if_neg (show ¬ ltr (S 14) A = true by rw [nl]; decide), if_neg (show ¬ dgt (S 14) A = true by rw [nd]; decide)]
          refine px_iconst (v := 1) dX7_step_157 (by decide) ?_
          refine cx_put (k := 9) (i := 0) (f := 3) (r := 62) (j := 1) dX7_step_158 gX7_45 rfl Nat.one_pos (Nat.le_of_ble_eq_true rfl) (by decide) rfl (cpe_9_3 0 _) rfl rfl ?_
          refine px_return dX7_step_161 rfl ?_
          first
          | exact hfin
          | (refine ⟨Tf.up List.mem_cons_self, ?_, ?_, ?_, ?_, ?_, ?_, ?_⟩
             · simp [up2, upd, T0]
             · simp [up2, upd, T5]
             · simp [up2, upd, T6]
             · rw [eA]; simp [up2, upd, T2]
             · rw [eB]; simp [up2, upd, T3]
             · rw [u2s, tkC, eA, if_pos lt, if_neg (show ¬ ltr (S 14) A = true by rw [nl]; decide), if_neg (show ¬ dgt (S 14) A = true by rw [nd]; decide)]
               first
               | (rw [if_pos (sg1.mp H150), T14]; exact sg2 (sg1.mp H150))
               | (rw [if_neg (fun q => absurd (sg1.mpr q) (not_not_intro H150))])
             · intro _ _ q; rw [eA, nd] at q; exact absurd q (by decide))
          | (have eB : lxB (S 14) t b = A := by rw [lxB, eA, if_neg (by omega)]
             refine ⟨(Tf.up List.mem_cons_self).up List.mem_cons_self, ?_, ?_, ?_, ?_, ?_, ?_, ?_⟩
             · simp [up2, upd, T0]
             · simp [up2, upd, T5]
             · simp [up2, upd, T6]
             · rw [eA]; simp [up2, upd, T2]
             · rw [eB, u2s, show A = t by omega]; exact T15
             · rw [tkC, eA, if_neg (by omega)]; simp [up2, upd]
             · intro q; rw [eA] at q; omega)
        · skip
          rw [T14] at H150
          obtain ⟨sg1, sg2⟩ := sg_x (hby A)
          have nd : dgt (S 14) A = false := by simpa using H96
          have nl : ltr (S 14) A = false := by simpa using H118
          have eB : lxB (S 14) t b = A + 1 := by rw [lxB, eA, if_pos lt, if_neg (show ¬ ltr (S 14) A = true by rw [nl]; decide), if_neg (show ¬ dgt (S 14) A = true by rw [nd]; decide)]
          refine px_iload_n dX7_step_153 rfl rfl ?_
          refine px_goto (tgt := 158) dX7_step_154 (by decide) ?_
          refine cx_put (k := 9) (i := 0) (f := 3) (r := 62) (j := 1) dX7_step_158 gX7_45 rfl Nat.one_pos (Nat.le_of_ble_eq_true rfl) (by decide) rfl (cpe_9_3 0 _) rfl rfl ?_
          refine px_return dX7_step_161 rfl ?_
          first
          | exact hfin
          | (refine ⟨Tf.up List.mem_cons_self, ?_, ?_, ?_, ?_, ?_, ?_, ?_⟩
             · simp [up2, upd, T0]
             · simp [up2, upd, T5]
             · simp [up2, upd, T6]
             · rw [eA]; simp [up2, upd, T2]
             · rw [eB]; simp [up2, upd, T3]
             · rw [u2s, tkC, eA, if_pos lt, if_neg (show ¬ ltr (S 14) A = true by rw [nl]; decide), if_neg (show ¬ dgt (S 14) A = true by rw [nd]; decide)]
               first
               | (rw [if_pos (sg1.mp H150), T14]; exact sg2 (sg1.mp H150))
               | (rw [if_neg (fun q => absurd (sg1.mpr q) (not_not_intro H150))])
             · intro _ _ q; rw [eA, nd] at q; exact absurd q (by decide))
          | (have eB : lxB (S 14) t b = A := by rw [lxB, eA, if_neg (by omega)]
             refine ⟨(Tf.up List.mem_cons_self).up List.mem_cons_self, ?_, ?_, ?_, ?_, ?_, ?_, ?_⟩
             · simp [up2, upd, T0]
             · simp [up2, upd, T5]
             · simp [up2, upd, T6]
             · rw [eA]; simp [up2, upd, T2]
             · rw [eB, u2s, show A = t by omega]; exact T15
             · rw [tkC, eA, if_neg (by omega)]; simp [up2, upd]
             · intro q; rw [eA] at q; omega)
      · skip
        rw [T14, ltr_b] at H118
        refine px_aload_n dX7_step_121 rfl rfl ?_
        refine cx_callV0 (k := 9) (i := 0) dX7_step_122 lX7_110 rfl Nat.one_pos rfl (c_X7_takeWord G m M0 Q T A t _ hck T2 T3 T15 lt ht1 rfl) (by decide) (Nat.le_of_ble_eq_true rfl) (fun S122 Q122 => ?_)
        rw [T14] at Q122
        rw [Decidable.not_not] at H118
        have eB : lxB (S 14) t b = rn (ltr (S 14)) t (A + 1) := by rw [lxB, eA, if_pos lt, if_pos H118, rn_go lt H118]
        rw [← eB] at Q122
        have hfin : STP t b S S122 := by
          subst Q122
          refine ⟨(Tf.up List.mem_cons_self).up List.mem_cons_self, ?_, ?_, ?_, ?_, ?_, ?_, ?_⟩
          · simp [up2, upd, T0]
          · simp [up2, upd, T5]
          · simp [up2, upd, T6]
          · rw [eA]; simp [up2, upd, T2]
          · simp [up2, upd]
          · rw [u2s, tkC, eA, if_pos lt, if_pos H118]
          · intro _ q _; rw [eA, H118] at q; exact absurd q (by decide)
        refine px_goto (tgt := 161) dX7_step_125 (by decide) ?_
        refine px_return dX7_step_161 rfl ?_
        first
        | exact hfin
        | (refine ⟨Tf.up List.mem_cons_self, ?_, ?_, ?_, ?_, ?_, ?_, ?_⟩
           · simp [up2, upd, T0]
           · simp [up2, upd, T5]
           · simp [up2, upd, T6]
           · rw [eA]; simp [up2, upd, T2]
           · rw [eB]; simp [up2, upd, T3]
           · rw [u2s, tkC, eA, if_pos lt, if_neg (show ¬ ltr (S 14) A = true by rw [nl]; decide), if_neg (show ¬ dgt (S 14) A = true by rw [nd]; decide)]
             first
             | (rw [if_pos (sg1.mp H150), T14]; exact sg2 (sg1.mp H150))
             | (rw [if_neg (fun q => absurd (sg1.mpr q) (not_not_intro H150))])
           · intro _ _ q; rw [eA, nd] at q; exact absurd q (by decide))
        | (have eB : lxB (S 14) t b = A := by rw [lxB, eA, if_neg (by omega)]
           refine ⟨(Tf.up List.mem_cons_self).up List.mem_cons_self, ?_, ?_, ?_, ?_, ?_, ?_, ?_⟩
           · simp [up2, upd, T0]
           · simp [up2, upd, T5]
           · simp [up2, upd, T6]
           · rw [eA]; simp [up2, upd, T2]
           · rw [eB, u2s, show A = t by omega]; exact T15
           · rw [tkC, eA, if_neg (by omega)]; simp [up2, upd]
           · intro q; rw [eA] at q; omega)
    · skip
      rw [T14, dgt_b] at H96
      refine px_aload_n dX7_step_99 rfl rfl ?_
      refine cx_callV0 (k := 9) (i := 0) dX7_step_100 lX7_104 rfl Nat.one_pos rfl (c_X7_takeNumber G m M0 Q T A t _ T2 T3 T15 lt ht1 rfl) (by decide) (Nat.le_of_ble_eq_true rfl) (fun S100 Q100 => ?_)
      rw [T14] at Q100
      rw [Decidable.not_not] at H96
      have nl := dgt_ltr H96
      have eB : lxB (S 14) t b = rn (dgt (S 14)) t (A + 1) := by rw [lxB, eA, if_pos lt, if_neg (show ¬ ltr (S 14) A = true by rw [nl]; decide), if_pos H96, rn_go lt H96]
      rw [← eB] at Q100
      have hfin : STP t b S S100 := by
        subst Q100
        refine ⟨((Tf.up List.mem_cons_self).up List.mem_cons_self).up List.mem_cons_self, ?_, ?_, ?_, ?_, ?_, ?_, ?_⟩
        · simp [up2, upd, T0]
        · simp [up2, upd, T5]
        · simp [up2, upd, T6]
        · rw [eA]; simp [up2, upd, T2]
        · simp [up2, upd]
        · rw [u2s, tkC, eA, if_pos lt, if_neg (show ¬ ltr (S 14) A = true by rw [nl]; decide), if_pos H96]
        · intro _ _ _; rw [eA]; simp [up2, upd]
      refine px_goto (tgt := 161) dX7_step_103 (by decide) ?_
      refine px_return dX7_step_161 rfl ?_
      first
      | exact hfin
      | (refine ⟨Tf.up List.mem_cons_self, ?_, ?_, ?_, ?_, ?_, ?_, ?_⟩
         · simp [up2, upd, T0]
         · simp [up2, upd, T5]
         · simp [up2, upd, T6]
         · rw [eA]; simp [up2, upd, T2]
         · rw [eB]; simp [up2, upd, T3]
         · rw [u2s, tkC, eA, if_pos lt, if_neg (show ¬ ltr (S 14) A = true by rw [nl]; decide), if_neg (show ¬ dgt (S 14) A = true by rw [nd]; decide)]
           first
           | (rw [if_pos (sg1.mp H150), T14]; exact sg2 (sg1.mp H150))
           | (rw [if_neg (fun q => absurd (sg1.mpr q) (not_not_intro H150))])
         · intro _ _ q; rw [eA, nd] at q; exact absurd q (by decide))
      | (have eB : lxB (S 14) t b = A := by rw [lxB, eA, if_neg (by omega)]
         refine ⟨(Tf.up List.mem_cons_self).up List.mem_cons_self, ?_, ?_, ?_, ?_, ?_, ?_, ?_⟩
         · simp [up2, upd, T0]
         · simp [up2, upd, T5]
         · simp [up2, upd, T6]
         · rw [eA]; simp [up2, upd, T2]
         · rw [eB, u2s, show A = t by omega]; exact T15
         · rw [tkC, eA, if_neg (by omega)]; simp [up2, upd]
         · intro q; rw [eA] at q; omega)
  · skip
    rw [T2, T15] at H65
    have ge : t ≤ A := ge_n (a := A) (b := t) (by omega) (by omega) H65
    refine px_aload_n dX7_step_68 rfl rfl ?_
    refine px_iconst (v := 0) dX7_step_69 (by decide) ?_
    refine cx_put (k := 9) (i := 0) (f := 3) (r := 62) (j := 1) dX7_step_70 gX7_45 rfl Nat.one_pos (Nat.le_of_ble_eq_true rfl) (by decide) rfl (cpe_9_3 0 _) rfl rfl ?_
    refine px_aload_n dX7_step_73 rfl rfl ?_
    refine px_aload_n dX7_step_74 rfl rfl ?_
    refine cx_get (k := 9) (i := 0) (f := 1) dX7_step_75 gX7_19 rfl Nat.one_pos rfl ?_
    refine cx_put (k := 9) (i := 0) (f := 5) (r := 62) (j := 3) dX7_step_78 gX7_26 rfl Nat.one_pos (Nat.le_of_ble_eq_true rfl) (by decide) rfl (cpe_9_5 0 _) rfl rfl ?_
    refine px_goto (tgt := 161) dX7_step_81 (by decide) ?_
    refine px_return dX7_step_161 rfl ?_
    first
    | exact hfin
    | (refine ⟨Tf.up List.mem_cons_self, ?_, ?_, ?_, ?_, ?_, ?_, ?_⟩
       · simp [up2, upd, T0]
       · simp [up2, upd, T5]
       · simp [up2, upd, T6]
       · rw [eA]; simp [up2, upd, T2]
       · rw [eB]; simp [up2, upd, T3]
       · rw [u2s, tkC, eA, if_pos lt, if_neg (show ¬ ltr (S 14) A = true by rw [nl]; decide), if_neg (show ¬ dgt (S 14) A = true by rw [nd]; decide)]
         first
         | (rw [if_pos (sg1.mp H150), T14]; exact sg2 (sg1.mp H150))
         | (rw [if_neg (fun q => absurd (sg1.mpr q) (not_not_intro H150))])
       · intro _ _ q; rw [eA, nd] at q; exact absurd q (by decide))
    | (have eB : lxB (S 14) t b = A := by rw [lxB, eA, if_neg (by omega)]
       refine ⟨(Tf.up List.mem_cons_self).up List.mem_cons_self, ?_, ?_, ?_, ?_, ?_, ?_, ?_⟩
       · simp [up2, upd, T0]
       · simp [up2, upd, T5]
       · simp [up2, upd, T6]
       · rw [eA]; simp [up2, upd, T2]
       · rw [eB, u2s, show A = t by omega]; exact T15
       · rw [tkC, eA, if_neg (by omega)]; simp [up2, upd]
       · intro q; rw [eA] at q; omega)
