/-! THE REFERENCE: what a text gives -/
/-- n steps (act, with) from place s on -/
def cs (S : MS) : Nat → Nat → List (Int32 × Int32)
  | _, 0 => []
  | s, n + 1 => (S 18 s, S 19 s) :: cs S (s + 1) n
/-- one step over a pile (its top first) -/
def op1 (fc : Nat → Int32) (c : Int32 × Int32) (st : List Int32) : List Int32 :=
  if c.1 = 1 then c.2 :: st else if c.1 = 2 then fc c.2.toNatClampNeg :: st
  else if c.1 = 3 then (match st with | x :: r => (if x = 0 then 1 else 0) :: r | [] => [])
  else if c.1 = 4 then (match st with | x :: r => -x :: r | [] => [])
  else (match st with | y :: x :: r => mTwo c.1 x y :: r | r => r)
def ev (fc : Nat → Int32) : List (Int32 × Int32) → List Int32 → List Int32
  | [], st => st
  | c :: l, st => ev fc l (op1 fc c st)
/-- the steps never reach below the pile, and leave one number -/
def wf : List (Int32 × Int32) → Nat → Prop
  | [], n => n = 1
  | c :: l, n => if c.1 = 1 then wf l (n + 1) else if c.1 = 2 then (∃ j, j < 6 ∧ c.2 = nI j) ∧ wf l (n + 1) else if c.1 = 3 then 1 ≤ n ∧ wf l n else if c.1 = 4 then 1 ≤ n ∧ wf l n else 2 ≤ n ∧ wf l (n - 1)
/-- the pile as a row: its bottom at place 0 -/
def PL (p : Nat → Int32) : List Int32 → Prop
  | [] => True
  | x :: r => p r.length = x ∧ PL p r
theorem PL.up {p : Nat → Int32} {i : Nat} {x : Int32} : ∀ {st : List Int32}, PL p st → st.length ≤ i → PL (upd p i x) st
  | [], _, _ => trivial
  | y :: r, h, hi => by
    have h1 : r.length < i := hi
    refine ⟨?_, PL.up h.2 (by omega)⟩
    rw [pk_un (by omega)]
    exact h.1
theorem PL.push {p : Nat → Int32} {x : Int32} {st : List Int32} (h : PL p st) : PL (upd p st.length x) (x :: st) := ⟨pk_us, h.up (Nat.le_refl _)⟩
theorem nIs {n : Nat} (h : 1 ≤ n) : nI n - 1 = nI (n - 1) := by
  obtain ⟨k, rfl⟩ : ∃ k, n = k + 1 := ⟨n - 1, by omega⟩
  exact nI_pred k
theorem nIs2 {n : Nat} (h : 2 ≤ n) : nI n - 2 = nI (n - 2) := by
  rw [show (2 : Int32) = nI 2 from rfl, pk_sub h]
theorem nIm (n : Nat) (h : 1 ≤ n) : nI n + -1 = nI (n - 1) := by
  obtain ⟨k, rfl⟩ : ∃ k, n = k + 1 := ⟨n - 1, by omega⟩
  exact pk_m1 k
set_option maxHeartbeats 4000000 in
set_option maxRecDepth 100000 in
theorem lp_gives (G : Gt) (m : Nat) (h0 : Ht) (S : MS) (t w b e : Nat) (ht : S 17 0 = nI t) (ht5 : t ≤ 5) (hw3 : w < 3) (he : S 20 (3 * t + w) = nI e) (he2 : e ≤ 160) (R : Int32) : ∀ (n s : Nat) (st : List Int32) (p : Nat → Int32), s + n = 170 * t + e → wf (cs S s n) st.length → st.length + n ≤ 170 → PL p st → (ev (S 29) (cs S s n) st).headD 0 = R → PX G (MPic G m h0) 2 Y12_gives 74 [some (.ref m), some (.int (nI w)), some (.int (nI st.length)), some (.int (nI b)), some (.int (nI s))] [] (setA S 28 p) 0 0 (ri (fun x S' => x = R ∧ fr [28] S S')) := by
  suffices H : ∀ (kk n s : Nat) (st : List Int32) (p : Nat → Int32), n < kk → s + n = 170 * t + e → wf (cs S s n) st.length → st.length + n ≤ 170 → PL p st → (ev (S 29) (cs S s n) st).headD 0 = R → PX G (MPic G m h0) 2 Y12_gives 74 [some (.ref m), some (.int (nI w)), some (.int (nI st.length)), some (.int (nI b)), some (.int (nI s))] [] (setA S 28 p) 0 0 (ri (fun x S' => x = R ∧ fr [28] S S')) from fun n s st p => H (n + 1) n s st p (Nat.lt_succ_self n)
  intro kk
  induction kk with
  | zero => intro n s st p h0 _ _ _ _ _; omega
  | succ kk ih0 =>
    intro n s st p hkk hs hw hl hp hR
    refine px_iload dX12_gives_74 rfl ?_
    refine px_sipush (v := 170) dX12_gives_76 (by decide) ?_
    refine px_aload_n dX12_gives_79 rfl rfl ?_
    refine mx_getI (k := 17) dX12_gives_80 gX12_229 (fun _ => rfl) ?_
    refine px_imul dX12_gives_83 ?_
    refine px_aload_n dX12_gives_84 rfl rfl ?_
    refine mx_getA (k := 20) (j := 14) dX12_gives_85 gX12_58 (fun _ => rfl) ?_
    refine px_iconst (v := 3) dX12_gives_88 (by decide) ?_
    refine px_aload_n dX12_gives_89 rfl rfl ?_
    refine mx_getI (k := 17) dX12_gives_90 gX12_229 (fun _ => rfl) ?_
    refine px_imul dX12_gives_93 ?_
    refine px_iload_n dX12_gives_94 rfl rfl ?_
    refine px_iadd dX12_gives_95 ?_
    refine mx_iald (j := 14) (k := 20) (3 * t + w) dX12_gives_96 rfl (by rw [show setA S 28 p 17 0 = nI t from ht, show (3 : Int32) = nI 3 from rfl, pk_mul, nI_add]) (by omega) (by decide) ?_
    refine px_iadd dX12_gives_97 ?_
    refine px_icmp_ge (tgt := 273) dX12_gives_98 (by decide) (fun H98 => ?_) (fun H98 => ?_)
    · skip
      rw [show setA S 28 p 17 0 = nI t from ht] at H98
      rw [show (170 : Int32) * nI t = nI (170 * t) from by rw [show (170 : Int32) = nI 170 from rfl, pk_mul], show setA S 28 p 20 (3 * t + w) = nI e from he, nI_add] at H98
      have g1 := ge_n (by omega) (by omega) H98
      have n0 : n = 0 := by omega
      subst n0
      have l1 : st.length = 1 := hw
      obtain ⟨x, rfl⟩ : ∃ x, st = [x] := List.length_eq_one_iff.mp l1
      refine px_aload_n dX12_gives_273 rfl rfl ?_
      refine mx_getA (k := 28) (j := 15) dX12_gives_274 gX12_61 (fun _ => rfl) ?_
      refine px_iconst (v := 0) dX12_gives_277 (by decide) ?_
      refine mx_iald (j := 15) (k := 28) (0) dX12_gives_278 rfl rfl (by omega) (by decide) ?_
      refine px_iretI dX12_gives_279 rfl ?_
      exact ⟨by rw [← hR]; exact hp.1, fun k hk => setA_ne (fun e9 => hk (by rw [e9]; exact List.mem_singleton.mpr rfl))⟩
    · skip
      rw [show setA S 28 p 17 0 = nI t from ht] at H98
      rw [show (170 : Int32) * nI t = nI (170 * t) from by rw [show (170 : Int32) = nI 170 from rfl, pk_mul], show setA S 28 p 20 (3 * t + w) = nI e from he, nI_add] at H98
      have g1 := lt_n (by omega) (by omega) H98
      obtain ⟨n, rfl⟩ : ∃ k, n = k + 1 := ⟨n - 1, by omega⟩
      simp only [cs, wf] at hw
      simp only [cs, ev] at hR
      refine px_aload_n dX12_gives_101 rfl rfl ?_
      refine mx_getA (k := 18) (j := 12) dX12_gives_102 gX12_52 (fun _ => rfl) ?_
      refine px_iload dX12_gives_105 rfl ?_
      refine mx_iald (j := 12) (k := 18) _ dX12_gives_107 rfl rfl (by omega) (by decide) ?_
      rcases sw_1_4 (setA S 28 p 18 s) with H108 | H108 | H108 | H108 | H108
      · refine px_tableIn (off := 32) (tgt := 140) dX12_gives_108 (by rw [H108]; decide) (by rw [H108]; decide) (by rw [H108]; rfl) (by decide) ?_
        have Ha : S 18 s = 1 := H108
        simp only [Ha, if_true] at hw
        rw [show op1 (S 29) (S 18 s, S 19 s) st = S 19 s :: st from by simp [op1, Ha]] at hR
        refine px_aload_n dX12_gives_140 rfl rfl ?_
        refine mx_getA (k := 28) (j := 15) dX12_gives_141 gX12_61 (fun _ => rfl) ?_
        refine px_iload_n dX12_gives_144 rfl rfl ?_
        refine px_aload_n dX12_gives_145 rfl rfl ?_
        refine mx_getA (k := 19) (j := 13) dX12_gives_146 gX12_55 (fun _ => rfl) ?_
        refine px_iload dX12_gives_149 rfl ?_
        refine mx_iald (j := 13) (k := 19) _ dX12_gives_151 rfl rfl (by omega) (by decide) ?_
        refine mx_iast (j := 15) (k := 28) _ dX12_gives_152 rfl rfl (by omega) (by decide) ?_
        refine px_iinc_2 (v := 1) dX12_gives_153 (by decide) (by decide) rfl ?_
        refine px_goto (tgt := 267) dX12_gives_156 (by decide) ?_
        refine px_iinc_4 (v := 1) dX12_gives_267 (by decide) (by decide) rfl ?_
        refine px_goto (tgt := 74) dX12_gives_270 (by decide) ?_
        first
        | exact px_S setA_up (px_lw (by simp [LW, nI_1]) (ih0 n (s + 1) (S 19 s :: st) _ (by omega) (by omega) hw (by simp only [List.length_cons]; omega) hp.push hR))
        | exact px_S setA_up (px_lw (by simp [LW, nI_1]) (ih0 n (s + 1) (S 29 j :: st) _ (by omega) (by omega) hw (by simp only [List.length_cons]; omega) hp.push hR))
        | exact px_S setA_up (px_lw (by simp [LW, nI_1]) (ih0 n (s + 1) ((if x = 0 then 1 else 0) :: r) _ (by omega) (by omega) hw (by simp only [List.length_cons] at hl ⊢; omega) (by simp only [H198, if_true, if_false]; exact hp.2.push) hR))
        | exact px_S setA_up (px_lw (by simp [LW, nI_1]) (ih0 n (s + 1) (-x :: r) _ (by omega) (by omega) hw (by simp only [List.length_cons] at hl ⊢; omega) (by rw [show setA S 28 p 28 r.length = x from hp.1]; exact hp.2.push) hR))
        | exact px_S setA_up (px_lw (by simp [LW, nI_1, nIm]) (ih0 n (s + 1) (mTwo (S 18 s) x y :: r) _ (by omega) (by omega) hw (by simp only [List.length_cons] at hl ⊢; omega) (by rw [show setA S 28 p 28 r.length = x from hp.2.1, show setA S 28 p 28 (r.length + 1) = y from hp.1]; exact hp.2.2.push) hR))
      · refine px_tableIn (off := 51) (tgt := 159) dX12_gives_108 (by rw [H108]; decide) (by rw [H108]; decide) (by rw [H108]; rfl) (by decide) ?_
        have Ha : S 18 s = 2 := H108
        simp only [Ha] at hw
        obtain ⟨⟨j, hj6, hj⟩, hw⟩ := hw
        rw [show op1 (S 29) (S 18 s, S 19 s) st = S 29 j :: st from by simp [op1, Ha, hj, nI_clamp (show j < 2 ^ 31 by omega)]] at hR
        refine px_aload_n dX12_gives_159 rfl rfl ?_
        refine mx_getA (k := 28) (j := 15) dX12_gives_160 gX12_61 (fun _ => rfl) ?_
        refine px_iload_n dX12_gives_163 rfl rfl ?_
        refine px_aload_n dX12_gives_164 rfl rfl ?_
        refine mx_getA (k := 29) (j := 16) dX12_gives_165 gX12_64 (fun _ => rfl) ?_
        refine px_aload_n dX12_gives_168 rfl rfl ?_
        refine mx_getA (k := 19) (j := 13) dX12_gives_169 gX12_55 (fun _ => rfl) ?_
        refine px_iload dX12_gives_172 rfl ?_
        refine mx_iald (j := 13) (k := 19) _ dX12_gives_174 rfl rfl (by omega) (by decide) ?_
        refine mx_iald (j := 16) (k := 29) (j) dX12_gives_175 rfl hj (by omega) (by decide) ?_
        refine mx_iast (j := 15) (k := 28) _ dX12_gives_176 rfl rfl (by omega) (by decide) ?_
        refine px_iinc_2 (v := 1) dX12_gives_177 (by decide) (by decide) rfl ?_
        refine px_goto (tgt := 267) dX12_gives_180 (by decide) ?_
        refine px_iinc_4 (v := 1) dX12_gives_267 (by decide) (by decide) rfl ?_
        refine px_goto (tgt := 74) dX12_gives_270 (by decide) ?_
        first
        | exact px_S setA_up (px_lw (by simp [LW, nI_1]) (ih0 n (s + 1) (S 19 s :: st) _ (by omega) (by omega) hw (by simp only [List.length_cons]; omega) hp.push hR))
        | exact px_S setA_up (px_lw (by simp [LW, nI_1]) (ih0 n (s + 1) (S 29 j :: st) _ (by omega) (by omega) hw (by simp only [List.length_cons]; omega) hp.push hR))
        | exact px_S setA_up (px_lw (by simp [LW, nI_1]) (ih0 n (s + 1) ((if x = 0 then 1 else 0) :: r) _ (by omega) (by omega) hw (by simp only [List.length_cons] at hl ⊢; omega) (by simp only [H198, if_true, if_false]; exact hp.2.push) hR))
        | exact px_S setA_up (px_lw (by simp [LW, nI_1]) (ih0 n (s + 1) (-x :: r) _ (by omega) (by omega) hw (by simp only [List.length_cons] at hl ⊢; omega) (by rw [show setA S 28 p 28 r.length = x from hp.1]; exact hp.2.push) hR))
        | exact px_S setA_up (px_lw (by simp [LW, nI_1, nIm]) (ih0 n (s + 1) (mTwo (S 18 s) x y :: r) _ (by omega) (by omega) hw (by simp only [List.length_cons] at hl ⊢; omega) (by rw [show setA S 28 p 28 r.length = x from hp.2.1, show setA S 28 p 28 (r.length + 1) = y from hp.1]; exact hp.2.2.push) hR))
      · refine px_tableIn (off := 75) (tgt := 183) dX12_gives_108 (by rw [H108]; decide) (by rw [H108]; decide) (by rw [H108]; rfl) (by decide) ?_
        have Ha : S 18 s = 3 := H108
        simp only [Ha] at hw
        obtain ⟨hw1, hw⟩ := hw
        obtain ⟨x, r, rfl⟩ : ∃ x r, st = x :: r := by cases st with | nil => exact absurd hw1 (by decide) | cons x r => exact ⟨x, r, rfl⟩
        have exl : nI (x :: r).length - 1 = nI r.length := nI_pred r.length
        rw [show op1 (S 29) (S 18 s, S 19 s) (x :: r) = (if x = 0 then 1 else 0) :: r from by simp [op1, Ha]] at hR
        refine px_aload_n dX12_gives_183 rfl rfl ?_
        refine mx_getA (k := 28) (j := 15) dX12_gives_184 gX12_61 (fun _ => rfl) ?_
        refine px_iload_n dX12_gives_187 rfl rfl ?_
        refine px_iconst (v := 1) dX12_gives_188 (by decide) ?_
        refine px_isub dX12_gives_189 ?_
        refine px_aload_n dX12_gives_190 rfl rfl ?_
        refine mx_getA (k := 28) (j := 15) dX12_gives_191 gX12_61 (fun _ => rfl) ?_
        refine px_iload_n dX12_gives_194 rfl rfl ?_
        refine px_iconst (v := 1) dX12_gives_195 (by decide) ?_
        refine px_isub dX12_gives_196 ?_
        refine mx_iald (j := 15) (k := 28) (r.length) dX12_gives_197 rfl exl (by simp only [List.length_cons] at hl; omega) (by decide) ?_
        refine px_if_ne (tgt := 205) dX12_gives_198 (by decide) (fun H198 => ?_) (fun H198 => ?_)
        · skip
          rw [show setA S 28 p 28 r.length = x from hp.1] at H198
          refine px_iconst (v := 0) dX12_gives_205 (by decide) ?_
          refine mx_iast (j := 15) (k := 28) (r.length) dX12_gives_206 rfl exl (by simp only [List.length_cons] at hl; omega) (by decide) ?_
          refine px_goto (tgt := 267) dX12_gives_207 (by decide) ?_
          refine px_iinc_4 (v := 1) dX12_gives_267 (by decide) (by decide) rfl ?_
          refine px_goto (tgt := 74) dX12_gives_270 (by decide) ?_
          first
          | exact px_S setA_up (px_lw (by simp [LW, nI_1]) (ih0 n (s + 1) (S 19 s :: st) _ (by omega) (by omega) hw (by simp only [List.length_cons]; omega) hp.push hR))
          | exact px_S setA_up (px_lw (by simp [LW, nI_1]) (ih0 n (s + 1) (S 29 j :: st) _ (by omega) (by omega) hw (by simp only [List.length_cons]; omega) hp.push hR))
          | exact px_S setA_up (px_lw (by simp [LW, nI_1]) (ih0 n (s + 1) ((if x = 0 then 1 else 0) :: r) _ (by omega) (by omega) hw (by simp only [List.length_cons] at hl ⊢; omega) (by simp only [H198, if_true, if_false]; exact hp.2.push) hR))
          | exact px_S setA_up (px_lw (by simp [LW, nI_1]) (ih0 n (s + 1) (-x :: r) _ (by omega) (by omega) hw (by simp only [List.length_cons] at hl ⊢; omega) (by rw [show setA S 28 p 28 r.length = x from hp.1]; exact hp.2.push) hR))
          | exact px_S setA_up (px_lw (by simp [LW, nI_1, nIm]) (ih0 n (s + 1) (mTwo (S 18 s) x y :: r) _ (by omega) (by omega) hw (by simp only [List.length_cons] at hl ⊢; omega) (by rw [show setA S 28 p 28 r.length = x from hp.2.1, show setA S 28 p 28 (r.length + 1) = y from hp.1]; exact hp.2.2.push) hR))
        · skip
          rw [show setA S 28 p 28 r.length = x from hp.1] at H198
          refine px_iconst (v := 1) dX12_gives_201 (by decide) ?_
          refine px_goto (tgt := 206) dX12_gives_202 (by decide) ?_
          refine mx_iast (j := 15) (k := 28) (r.length) dX12_gives_206 rfl exl (by simp only [List.length_cons] at hl; omega) (by decide) ?_
          refine px_goto (tgt := 267) dX12_gives_207 (by decide) ?_
          refine px_iinc_4 (v := 1) dX12_gives_267 (by decide) (by decide) rfl ?_
          refine px_goto (tgt := 74) dX12_gives_270 (by decide) ?_
          first
          | exact px_S setA_up (px_lw (by simp [LW, nI_1]) (ih0 n (s + 1) (S 19 s :: st) _ (by omega) (by omega) hw (by simp only [List.length_cons]; omega) hp.push hR))
          | exact px_S setA_up (px_lw (by simp [LW, nI_1]) (ih0 n (s + 1) (S 29 j :: st) _ (by omega) (by omega) hw (by simp only [List.length_cons]; omega) hp.push hR))
          | exact px_S setA_up (px_lw (by simp [LW, nI_1]) (ih0 n (s + 1) ((if x = 0 then 1 else 0) :: r) _ (by omega) (by omega) hw (by simp only [List.length_cons] at hl ⊢; omega) (by simp only [H198, if_true, if_false]; exact hp.2.push) hR))
          | exact px_S setA_up (px_lw (by simp [LW, nI_1]) (ih0 n (s + 1) (-x :: r) _ (by omega) (by omega) hw (by simp only [List.length_cons] at hl ⊢; omega) (by rw [show setA S 28 p 28 r.length = x from hp.1]; exact hp.2.push) hR))
          | exact px_S setA_up (px_lw (by simp [LW, nI_1, nIm]) (ih0 n (s + 1) (mTwo (S 18 s) x y :: r) _ (by omega) (by omega) hw (by simp only [List.length_cons] at hl ⊢; omega) (by rw [show setA S 28 p 28 r.length = x from hp.2.1, show setA S 28 p 28 (r.length + 1) = y from hp.1]; exact hp.2.2.push) hR))
      · refine px_tableIn (off := 102) (tgt := 210) dX12_gives_108 (by rw [H108]; decide) (by rw [H108]; decide) (by rw [H108]; rfl) (by decide) ?_
        have Ha : S 18 s = 4 := H108
        simp only [Ha] at hw
        obtain ⟨hw1, hw⟩ := hw
        obtain ⟨x, r, rfl⟩ : ∃ x r, st = x :: r := by cases st with | nil => exact absurd hw1 (by decide) | cons x r => exact ⟨x, r, rfl⟩
        have exl : nI (x :: r).length - 1 = nI r.length := nI_pred r.length
        rw [show op1 (S 29) (S 18 s, S 19 s) (x :: r) = -x :: r from by simp [op1, Ha]] at hR
        refine px_aload_n dX12_gives_210 rfl rfl ?_
        refine mx_getA (k := 28) (j := 15) dX12_gives_211 gX12_61 (fun _ => rfl) ?_
        refine px_iload_n dX12_gives_214 rfl rfl ?_
        refine px_iconst (v := 1) dX12_gives_215 (by decide) ?_
        refine px_isub dX12_gives_216 ?_
        refine px_aload_n dX12_gives_217 rfl rfl ?_
        refine mx_getA (k := 28) (j := 15) dX12_gives_218 gX12_61 (fun _ => rfl) ?_
        refine px_iload_n dX12_gives_221 rfl rfl ?_
        refine px_iconst (v := 1) dX12_gives_222 (by decide) ?_
        refine px_isub dX12_gives_223 ?_
        refine mx_iald (j := 15) (k := 28) (r.length) dX12_gives_224 rfl exl (by simp only [List.length_cons] at hl; omega) (by decide) ?_
        refine px_ineg dX12_gives_225 ?_
        refine mx_iast (j := 15) (k := 28) (r.length) dX12_gives_226 rfl exl (by simp only [List.length_cons] at hl; omega) (by decide) ?_
        refine px_goto (tgt := 267) dX12_gives_227 (by decide) ?_
        refine px_iinc_4 (v := 1) dX12_gives_267 (by decide) (by decide) rfl ?_
        refine px_goto (tgt := 74) dX12_gives_270 (by decide) ?_
        first
        | exact px_S setA_up (px_lw (by simp [LW, nI_1]) (ih0 n (s + 1) (S 19 s :: st) _ (by omega) (by omega) hw (by simp only [List.length_cons]; omega) hp.push hR))
        | exact px_S setA_up (px_lw (by simp [LW, nI_1]) (ih0 n (s + 1) (S 29 j :: st) _ (by omega) (by omega) hw (by simp only [List.length_cons]; omega) hp.push hR))
        | exact px_S setA_up (px_lw (by simp [LW, nI_1]) (ih0 n (s + 1) ((if x = 0 then 1 else 0) :: r) _ (by omega) (by omega) hw (by simp only [List.length_cons] at hl ⊢; omega) (by simp only [H198, if_true, if_false]; exact hp.2.push) hR))
        | exact px_S setA_up (px_lw (by simp [LW, nI_1]) (ih0 n (s + 1) (-x :: r) _ (by omega) (by omega) hw (by simp only [List.length_cons] at hl ⊢; omega) (by rw [show setA S 28 p 28 r.length = x from hp.1]; exact hp.2.push) hR))
        | exact px_S setA_up (px_lw (by simp [LW, nI_1, nIm]) (ih0 n (s + 1) (mTwo (S 18 s) x y :: r) _ (by omega) (by omega) hw (by simp only [List.length_cons] at hl ⊢; omega) (by rw [show setA S 28 p 28 r.length = x from hp.2.1, show setA S 28 p 28 (r.length + 1) = y from hp.1]; exact hp.2.2.push) hR))
      · refine px_tableOut (tgt := 230) dX12_gives_108 H108 (by decide) ?_
        have N108_1 : ¬ setA S 28 p 18 s = 1 := by intro e9; rw [e9] at H108; revert H108; decide
        have N108_2 : ¬ setA S 28 p 18 s = 2 := by intro e9; rw [e9] at H108; revert H108; decide
        have N108_3 : ¬ setA S 28 p 18 s = 3 := by intro e9; rw [e9] at H108; revert H108; decide
        have N108_4 : ¬ setA S 28 p 18 s = 4 := by intro e9; rw [e9] at H108; revert H108; decide
        have h1 : ¬ S 18 s = 1 := N108_1
        have h2 : ¬ S 18 s = 2 := N108_2
        have h3 : ¬ S 18 s = 3 := N108_3
        have h4 : ¬ S 18 s = 4 := N108_4
        simp only [h1, h2, h3, h4, if_false] at hw
        obtain ⟨hw1, hw⟩ := hw
        obtain ⟨y, x, r, rfl⟩ : ∃ y x r, st = y :: x :: r := by
          cases st with
          | nil => exact absurd hw1 (by decide)
          | cons y q => cases q with
            | nil => exact absurd hw1 (by simp)
            | cons x r => exact ⟨y, x, r, rfl⟩
        have exl : nI (y :: x :: r).length - 1 = nI (r.length + 1) := nI_pred (r.length + 1)
        have exl2 : nI (y :: x :: r).length - 2 = nI r.length := nIs2 (n := r.length + 2) (by omega)
        rw [show op1 (S 29) (S 18 s, S 19 s) (y :: x :: r) = mTwo (S 18 s) x y :: r from by simp [op1, h1, h2, h3, h4]] at hR
        refine px_aload_n dX12_gives_230 rfl rfl ?_
        refine mx_getA (k := 28) (j := 15) dX12_gives_231 gX12_61 (fun _ => rfl) ?_
        refine px_iload_n dX12_gives_234 rfl rfl ?_
        refine px_iconst (v := 2) dX12_gives_235 (by decide) ?_
        refine px_isub dX12_gives_236 ?_
        refine px_aload_n dX12_gives_237 rfl rfl ?_
        refine mx_getA (k := 18) (j := 12) dX12_gives_238 gX12_52 (fun _ => rfl) ?_
        refine px_iload dX12_gives_241 rfl ?_
        refine mx_iald (j := 12) (k := 18) _ dX12_gives_243 rfl rfl (by omega) (by decide) ?_
        refine px_aload_n dX12_gives_244 rfl rfl ?_
        refine mx_getA (k := 28) (j := 15) dX12_gives_245 gX12_61 (fun _ => rfl) ?_
        refine px_iload_n dX12_gives_248 rfl rfl ?_
        refine px_iconst (v := 2) dX12_gives_249 (by decide) ?_
        refine px_isub dX12_gives_250 ?_
        refine mx_iald (j := 15) (k := 28) (r.length) dX12_gives_251 rfl exl2 (by simp only [List.length_cons] at hl; omega) (by decide) ?_
        refine px_aload_n dX12_gives_252 rfl rfl ?_
        refine mx_getA (k := 28) (j := 15) dX12_gives_253 gX12_61 (fun _ => rfl) ?_
        refine px_iload_n dX12_gives_256 rfl rfl ?_
        refine px_iconst (v := 1) dX12_gives_257 (by decide) ?_
        refine px_isub dX12_gives_258 ?_
        refine mx_iald (j := 15) (k := 28) (r.length + 1) dX12_gives_259 rfl exl (by simp only [List.length_cons] at hl; omega) (by decide) ?_
        refine px_pure3 dX12_gives_260 lX12_232 (c_X12_twoOf G _ _ _) (by decide) (Nat.le_of_ble_eq_true rfl) ?_
        refine mx_iast (j := 15) (k := 28) (r.length) dX12_gives_263 rfl exl2 (by simp only [List.length_cons] at hl; omega) (by decide) ?_
        refine px_iinc_2 (v := (-1)) dX12_gives_264 (by decide) (by decide) rfl ?_
        refine px_iinc_4 (v := 1) dX12_gives_267 (by decide) (by decide) rfl ?_
        refine px_goto (tgt := 74) dX12_gives_270 (by decide) ?_
        first
        | exact px_S setA_up (px_lw (by simp [LW, nI_1]) (ih0 n (s + 1) (S 19 s :: st) _ (by omega) (by omega) hw (by simp only [List.length_cons]; omega) hp.push hR))
        | exact px_S setA_up (px_lw (by simp [LW, nI_1]) (ih0 n (s + 1) (S 29 j :: st) _ (by omega) (by omega) hw (by simp only [List.length_cons]; omega) hp.push hR))
        | exact px_S setA_up (px_lw (by simp [LW, nI_1]) (ih0 n (s + 1) ((if x = 0 then 1 else 0) :: r) _ (by omega) (by omega) hw (by simp only [List.length_cons] at hl ⊢; omega) (by simp only [H198, if_true, if_false]; exact hp.2.push) hR))
        | exact px_S setA_up (px_lw (by simp [LW, nI_1]) (ih0 n (s + 1) (-x :: r) _ (by omega) (by omega) hw (by simp only [List.length_cons] at hl ⊢; omega) (by rw [show setA S 28 p 28 r.length = x from hp.1]; exact hp.2.push) hR))
        | exact px_S setA_up (px_lw (by simp [LW, nI_1, nIm]) (ih0 n (s + 1) (mTwo (S 18 s) x y :: r) _ (by omega) (by omega) hw (by simp only [List.length_cons] at hl ⊢; omega) (by rw [show setA S 28 p 28 r.length = x from hp.2.1, show setA S 28 p 28 (r.length + 1) = y from hp.1]; exact hp.2.2.push) hR))
def tBeg (S : MS) (t w : Nat) : Nat := if w = 0 then 0 else (S 20 (3 * t + w - 1)).toNatClampNeg
def tEnd (S : MS) (t w : Nat) : Nat := (S 20 (3 * t + w)).toNatClampNeg
def tCode (S : MS) (t w : Nat) : List (Int32 × Int32) := cs S (170 * t + tBeg S t w) (tEnd S t w - tBeg S t w)
/-- part w of text t is sound -/
def TOK (S : MS) (t w : Nat) : Prop := ∃ b e : Nat, (w ≠ 0 → S 20 (3 * t + w - 1) = nI b) ∧ (w = 0 → b = 0) ∧ S 20 (3 * t + w) = nI e ∧ b ≤ e ∧ e ≤ 160 ∧ wf (tCode S t w) 0
/-- the text in force is sound -/
def TF (S : MS) : Prop := ∃ t : Nat, t ≤ 5 ∧ S 17 0 = nI t ∧ (t = 0 ∨ ∀ w, w < 3 → TOK S t w)
def tv (S : MS) (w : Nat) (fc : Nat → Int32) : Int32 := if S 17 0 = 0 then (if w = 0 then 0 else if w = 1 then fc 1 else fc 2) else (ev fc (tCode S (S 17 0).toNatClampNeg w) []).headD 0
theorem cs_congr {S S' : MS} (h18 : S' 18 = S 18) (h19 : S' 19 = S 19) : ∀ n s, cs S' s n = cs S s n
  | 0, _ => rfl
  | n + 1, s => by rw [cs, cs, cs_congr h18 h19 n (s + 1), h18, h19]
theorem tCode_congr {S S' : MS} {t w : Nat} (h18 : S' 18 = S 18) (h19 : S' 19 = S 19) (h20 : S' 20 = S 20) : tCode S' t w = tCode S t w := by
  unfold tCode tBeg tEnd
  rw [h20, cs_congr h18 h19]
theorem TOK.go {S S' : MS} {t w : Nat} (h18 : S' 18 = S 18) (h19 : S' 19 = S 19) (h20 : S' 20 = S 20) (h : TOK S t w) : TOK S' t w := by
  unfold TOK
  rw [tCode_congr h18 h19 h20, h20]
  exact h
theorem TF.go {S S' : MS} {X : List Nat} (hf : fr X S S') (h17 : 17 ∉ X) (h18 : 18 ∉ X) (h19 : 19 ∉ X) (h20 : 20 ∉ X) (h : TF S) : TF S' := by
  obtain ⟨t, a, b, c⟩ := h
  refine ⟨t, a, by rw [hf 17 h17]; exact b, ?_⟩
  rcases c with c | c
  · exact Or.inl c
  · exact Or.inr fun w hw => (c w hw).go (hf 18 h18) (hf 19 h19) (hf 20 h20)
theorem tv_go {S S' : MS} {X : List Nat} {w : Nat} {fc : Nat → Int32} (hf : fr X S S') (h17 : 17 ∉ X) (h18 : 18 ∉ X) (h19 : 19 ∉ X) (h20 : 20 ∉ X) : tv S' w fc = tv S w fc := by
  unfold tv
  rw [hf 17 h17, tCode_congr (hf 18 h18) (hf 19 h19) (hf 20 h20)]
theorem op1_len {fc : Nat → Int32} {c : Int32 × Int32} {st : List Int32} {l : List (Int32 × Int32)} (h : wf (c :: l) st.length) : wf l (op1 fc c st).length := by
  unfold wf at h
  unfold op1
  by_cases h1 : c.1 = 1
  · simp only [h1, if_true] at h ⊢; exact h
  · by_cases h2 : c.1 = 2
    · simp only [h2] at h ⊢; exact h.2
    · by_cases h3 : c.1 = 3
      · simp only [h3] at h ⊢
        cases st with
        | nil => exact absurd h.1 (by decide)
        | cons x r => exact h.2
      · by_cases h4 : c.1 = 4
        · simp only [h4] at h ⊢
          cases st with
          | nil => exact absurd h.1 (by decide)
          | cons x r => exact h.2
        · simp only [h1, h2, h3, h4, if_false] at h ⊢
          cases st with
          | nil => exact absurd h.1 (by decide)
          | cons y q =>
            cases q with
            | nil => exact absurd h.1 (by simp)
            | cons x r => exact h.2
theorem ev_congr {fc fc' : Nat → Int32} (hf : ∀ i, i < 6 → fc i = fc' i) : ∀ (l : List (Int32 × Int32)) (st : List Int32), wf l st.length → ev fc l st = ev fc' l st
  | [], _, _ => rfl
  | c :: l, st, h => by
    have e : op1 fc c st = op1 fc' c st := by
      unfold op1
      by_cases h2 : c.1 = 2
      · by_cases h1 : c.1 = 1
        · simp [h1]
        · unfold wf at h
          rw [if_neg h1, if_pos h2] at h
          obtain ⟨⟨j, hj, ej⟩, -⟩ := h
          rw [if_neg h1, if_neg h1, if_pos h2, if_pos h2, ej, nI_clamp (by omega), hf j hj]
      · simp [h2]
    rw [ev, ev, e]
    exact ev_congr hf l _ (op1_len h)
theorem tv_congr {S : MS} {w : Nat} {fc fc' : Nat → Int32} (hT : TF S) (hw : w < 3) (hf : ∀ i, i < 6 → fc i = fc' i) : tv S w fc = tv S w fc' := by
  obtain ⟨t, a, b, c⟩ := hT
  unfold tv
  rw [b, hf 1 (by decide), hf 2 (by decide), nI_clamp (by omega)]
  by_cases h0 : nI t = 0
  · rw [if_pos h0, if_pos h0]
  · rw [if_neg h0, if_neg h0]
    rcases c with c | c
    · subst c; exact absurd rfl h0
    · obtain ⟨_, _, _, _, _, _, _, hwf⟩ := c w hw
      rw [ev_congr hf _ [] hwf]
set_option maxHeartbeats 4000000 in
set_option maxRecDepth 100000 in
theorem c_X12_gives (G : Gt) (m : Nat) (h0 : Ht) (S : MS) (w : Nat) (hw3 : w < 3) (hT : TF S) : PC G (MPic G m h0) 2 Y12_gives [.ref m, .int (nI w)] S 0 0 (ri (fun x S' => x = tv S w (S 29) ∧ fr [28] S S')) := by
  obtain ⟨t, ht5, ht, hc⟩ := hT
  refine pc_of (ls := [some (.ref m), some (.int (nI w)), none, none, none]) (by decide +kernel) rfl (Nat.le_of_ble_eq_true rfl) ?_
  refine px_aload_n dX12_gives_0 rfl rfl ?_
  refine mx_getI (k := 17) dX12_gives_1 gX12_229 (fun _ => rfl) ?_
  refine px_if_ne (tgt := 36) dX12_gives_4 (by decide) (fun H4 => ?_) (fun H4 => ?_)
  · skip
    have t0 : t ≠ 0 := fun e9 => H4 (by rw [ht, e9]; rfl)
    have hok := (hc.resolve_left t0) w hw3
    obtain ⟨b, e, hb1, hb2, he, hbe, he160, hwf⟩ := hok
    have etv : tv S w (S 29) = (ev (S 29) (cs S (170 * t + b) (e - b)) []).headD 0 := by
      unfold tv
      rw [if_neg H4, ht, nI_clamp (by omega)]
      unfold tCode tEnd tBeg
      rw [he, nI_clamp (by omega)]
      by_cases h9 : w = 0
      · rw [if_pos h9, hb2 h9]
      · rw [if_neg h9, hb1 h9, nI_clamp (by omega)]
    have hwf2 : wf (cs S (170 * t + b) (e - b)) 0 := by
      have h8 := hwf
      unfold tCode tEnd tBeg at h8
      rw [he, nI_clamp (by omega)] at h8
      by_cases h9 : w = 0
      · rw [if_pos h9] at h8; rw [hb2 h9]; exact h8
      · rw [if_neg h9, hb1 h9, nI_clamp (by omega)] at h8; exact h8
    rw [etv]
    refine px_iconst (v := 0) dX12_gives_36 (by decide) ?_
    refine px_istore_n2 dX12_gives_37 (by decide) rfl ?_
    refine px_iload_n dX12_gives_38 rfl rfl ?_
    refine px_if_ne (tgt := 46) dX12_gives_39 (by decide) (fun H39 => ?_) (fun H39 => ?_)
    · skip
      rw [show (0 : Int32) = nI 0 from rfl] at H39
      have w0 := ne_n (by omega) (by omega) H39
      have hb1 := hb1 w0
      refine px_aload_n dX12_gives_46 rfl rfl ?_
      refine mx_getA (k := 20) (j := 14) dX12_gives_47 gX12_58 (fun _ => rfl) ?_
      refine px_iconst (v := 3) dX12_gives_50 (by decide) ?_
      refine px_aload_n dX12_gives_51 rfl rfl ?_
      refine mx_getI (k := 17) dX12_gives_52 gX12_229 (fun _ => rfl) ?_
      refine px_imul dX12_gives_55 ?_
      refine px_iload_n dX12_gives_56 rfl rfl ?_
      refine px_iadd dX12_gives_57 ?_
      refine px_iconst (v := 1) dX12_gives_58 (by decide) ?_
      refine px_isub dX12_gives_59 ?_
      refine mx_iald (j := 14) (k := 20) (3 * t + w - 1) dX12_gives_60 rfl (by rw [ht, show (3 : Int32) = nI 3 from rfl, pk_mul, nI_add, nIs (by omega)]) (by omega) (by decide) ?_
      first | refine px_top hb1 ?_ | refine px_top b0 ?_
      refine px_istore_n3 dX12_gives_61 (by decide) rfl ?_
      refine px_sipush (v := 170) dX12_gives_62 (by decide) ?_
      refine px_aload_n dX12_gives_65 rfl rfl ?_
      refine mx_getI (k := 17) dX12_gives_66 gX12_229 (fun _ => rfl) ?_
      refine px_imul dX12_gives_69 ?_
      refine px_iload_n dX12_gives_70 rfl rfl ?_
      refine px_iadd dX12_gives_71 ?_
      refine px_istore_4 dX12_gives_72 (by decide) rfl ?_
      refine px_S (S' := setA S 28 (S 28)) setA_id.symm (px_lw (ls' := [some (.ref m), some (.int (nI w)), some (.int (nI ([] : List Int32).length)), some (.int (nI b)), some (.int (nI (170 * t + b)))]) ?_ (lp_gives G m h0 S t w b e ht ht5 hw3 he he160 _ (e - b) (170 * t + b) [] (S 28) (by omega) hwf2 (by simp only [List.length_nil]; omega) trivial rfl))
      simp only [LW, ht]
      rw [show (170 : Int32) = nI 170 from rfl, pk_mul, ← nI_add]
      simp [nI_0]
    · skip
      rw [show (0 : Int32) = nI 0 from rfl] at H39
      have w0 := eq_n (by omega) (by omega) H39
      have b0 : (0 : Int32) = nI b := by rw [hb2 w0]; rfl
      refine px_iconst (v := 0) dX12_gives_42 (by decide) ?_
      refine px_goto (tgt := 61) dX12_gives_43 (by decide) ?_
      first | refine px_top hb1 ?_ | refine px_top b0 ?_
      refine px_istore_n3 dX12_gives_61 (by decide) rfl ?_
      refine px_sipush (v := 170) dX12_gives_62 (by decide) ?_
      refine px_aload_n dX12_gives_65 rfl rfl ?_
      refine mx_getI (k := 17) dX12_gives_66 gX12_229 (fun _ => rfl) ?_
      refine px_imul dX12_gives_69 ?_
      refine px_iload_n dX12_gives_70 rfl rfl ?_
      refine px_iadd dX12_gives_71 ?_
      refine px_istore_4 dX12_gives_72 (by decide) rfl ?_
      refine px_S (S' := setA S 28 (S 28)) setA_id.symm (px_lw (ls' := [some (.ref m), some (.int (nI w)), some (.int (nI ([] : List Int32).length)), some (.int (nI b)), some (.int (nI (170 * t + b)))]) ?_ (lp_gives G m h0 S t w b e ht ht5 hw3 he he160 _ (e - b) (170 * t + b) [] (S 28) (by omega) hwf2 (by simp only [List.length_nil]; omega) trivial rfl))
      simp only [LW, ht]
      rw [show (170 : Int32) = nI 170 from rfl, pk_mul, ← nI_add]
      simp [nI_0]
  · skip
    have H4b := H4
    refine px_iload_n dX12_gives_7 rfl rfl ?_
    refine px_if_ne (tgt := 15) dX12_gives_8 (by decide) (fun H8 => ?_) (fun H8 => ?_)
    · skip
      rw [show (0 : Int32) = nI 0 from rfl] at H8
      have w0 := ne_n (by omega) (by omega) H8
      refine px_iload_n dX12_gives_15 rfl rfl ?_
      refine px_iconst (v := 1) dX12_gives_16 (by decide) ?_
      refine px_icmp_ne (tgt := 29) dX12_gives_17 (by decide) (fun H17 => ?_) (fun H17 => ?_)
      · skip
        rw [show (1 : Int32) = nI 1 from rfl] at H17
        have w1 := ne_n (by omega) (by omega) H17
        refine px_aload_n dX12_gives_29 rfl rfl ?_
        refine mx_getA (k := 29) (j := 16) dX12_gives_30 gX12_64 (fun _ => rfl) ?_
        refine px_iconst (v := 2) dX12_gives_33 (by decide) ?_
        refine mx_iald (j := 16) (k := 29) (2) dX12_gives_34 rfl rfl (by omega) (by decide) ?_
        refine px_iretI dX12_gives_35 rfl ?_
        exact ⟨by rw [tv, if_pos H4b]; clear ht hc; simp [*], fr.rf⟩
      · skip
        rw [show (1 : Int32) = nI 1 from rfl] at H17
        have w1 := eq_n (by omega) (by omega) H17
        subst w1
        refine px_aload_n dX12_gives_20 rfl rfl ?_
        refine mx_getA (k := 29) (j := 16) dX12_gives_21 gX12_64 (fun _ => rfl) ?_
        refine px_iconst (v := 1) dX12_gives_24 (by decide) ?_
        refine mx_iald (j := 16) (k := 29) (1) dX12_gives_25 rfl rfl (by omega) (by decide) ?_
        refine px_goto (tgt := 35) dX12_gives_26 (by decide) ?_
        refine px_iretI dX12_gives_35 rfl ?_
        exact ⟨by rw [tv, if_pos H4b]; clear ht hc; simp [*], fr.rf⟩
    · skip
      rw [show (0 : Int32) = nI 0 from rfl] at H8
      have w0 := eq_n (by omega) (by omega) H8
      subst w0
      refine px_iconst (v := 0) dX12_gives_11 (by decide) ?_
      refine px_goto (tgt := 35) dX12_gives_12 (by decide) ?_
      refine px_iretI dX12_gives_35 rfl ?_
      exact ⟨by rw [tv, if_pos H4b]; clear ht hc; simp [*], fr.rf⟩
def fct (o a z n f v : Int32) : Nat → Int32 := fun i => if i = 0 then o else if i = 1 then a else if i = 2 then z else if i = 3 then n else if i = 4 then f else v
def sFc (S : MS) (o a z n f v : Int32) : MS := up2 (up2 (up2 (up2 (up2 (up2 S 29 0 o) 29 1 a) 29 2 z) 29 3 n) 29 4 f) 29 5 v
theorem sFc_29 {S : MS} {o a z n f v : Int32} : ∀ i, i < 6 → sFc S o a z n f v 29 i = fct o a z n f v i := by
  intro i hi
  unfold sFc fct
  rw [up2_eq, up2_eq, up2_eq, up2_eq, up2_eq, up2_eq]
  unfold upd
  rcases (show i = 0 ∨ i = 1 ∨ i = 2 ∨ i = 3 ∨ i = 4 ∨ i = 5 by omega) with rfl | rfl | rfl | rfl | rfl | rfl <;> simp
theorem sFc_fr {S : MS} {o a z n f v : Int32} : fr [29] S (sFc S o a z n f v) := by
  unfold sFc
  exact (((((fr.rf.up (by decide)).up (by decide)).up (by decide)).up (by decide)).up (by decide)).up (by decide)
set_option maxHeartbeats 4000000 in
set_option maxRecDepth 100000 in
theorem c_X12_findFacts (G : Gt) (m : Nat) (h0 : Ht) (S : MS) (o a z n f v : Int32)  : PC G (MPic G m h0) 1 Y12_findFacts [.ref m, .int o, .int a, .int z, .int n, .int f, .int v] S 0 0 (rv (fun S' => S' = sFc S o a z n f v)) := by
  refine pc_of (ls := [some (.ref m), some (.int o), some (.int a), some (.int z), some (.int n), some (.int f), some (.int v)]) (by decide +kernel) rfl (Nat.le_of_ble_eq_true rfl) ?_
  refine px_aload_n dX12_findFacts_0 rfl rfl ?_
  refine mx_getA (k := 29) (j := 16) dX12_findFacts_1 gX12_64 (fun _ => rfl) ?_
  refine px_iconst (v := 0) dX12_findFacts_4 (by decide) ?_
  refine px_iload_n dX12_findFacts_5 rfl rfl ?_
  refine mx_iast (j := 16) (k := 29) (0) dX12_findFacts_6 rfl rfl (by omega) (by decide) ?_
  refine px_aload_n dX12_findFacts_7 rfl rfl ?_
  refine mx_getA (k := 29) (j := 16) dX12_findFacts_8 gX12_64 (fun _ => rfl) ?_
  refine px_iconst (v := 1) dX12_findFacts_11 (by decide) ?_
  refine px_iload_n dX12_findFacts_12 rfl rfl ?_
  refine mx_iast (j := 16) (k := 29) (1) dX12_findFacts_13 rfl rfl (by omega) (by decide) ?_
  refine px_aload_n dX12_findFacts_14 rfl rfl ?_
  refine mx_getA (k := 29) (j := 16) dX12_findFacts_15 gX12_64 (fun _ => rfl) ?_
  refine px_iconst (v := 2) dX12_findFacts_18 (by decide) ?_
  refine px_iload_n dX12_findFacts_19 rfl rfl ?_
  refine mx_iast (j := 16) (k := 29) (2) dX12_findFacts_20 rfl rfl (by omega) (by decide) ?_
  refine px_aload_n dX12_findFacts_21 rfl rfl ?_
  refine mx_getA (k := 29) (j := 16) dX12_findFacts_22 gX12_64 (fun _ => rfl) ?_
  refine px_iconst (v := 3) dX12_findFacts_25 (by decide) ?_
  refine px_iload dX12_findFacts_26 rfl ?_
  refine mx_iast (j := 16) (k := 29) (3) dX12_findFacts_28 rfl rfl (by omega) (by decide) ?_
  refine px_aload_n dX12_findFacts_29 rfl rfl ?_
  refine mx_getA (k := 29) (j := 16) dX12_findFacts_30 gX12_64 (fun _ => rfl) ?_
  refine px_iconst (v := 4) dX12_findFacts_33 (by decide) ?_
  refine px_iload dX12_findFacts_34 rfl ?_
  refine mx_iast (j := 16) (k := 29) (4) dX12_findFacts_36 rfl rfl (by omega) (by decide) ?_
  refine px_aload_n dX12_findFacts_37 rfl rfl ?_
  refine mx_getA (k := 29) (j := 16) dX12_findFacts_38 gX12_64 (fun _ => rfl) ?_
  refine px_iconst (v := 5) dX12_findFacts_41 (by decide) ?_
  refine px_iload dX12_findFacts_42 rfl ?_
  refine mx_iast (j := 16) (k := 29) (5) dX12_findFacts_44 rfl rfl (by omega) (by decide) ?_
  refine px_return dX12_findFacts_45 rfl ?_
  rfl
theorem cx_post {G : Gt} {d : Nat} {Y : Yt} {av : List Value} {h : Ht} {mc ms : Nat} {Post Post' : Option Value → Ht → Prop} (hi : ∀ r h', Post r h' → Post' r h') (k : CX G d Y av h mc ms Post) : CX G d Y av h mc ms Post' := by
  intro p e ha hc hk s m args below hf happ hP hK
  obtain ⟨n, o, h1, h2, h3, ⟨⟨⟨r, h', e1, e2, e3⟩, e4⟩, e5⟩⟩ := k p e ha hc hk s m args below hf happ hP hK
  exact ⟨n, o, h1, h2, h3, ⟨⟨⟨r, h', e1, hi r h' e2, e3⟩, e4⟩, e5⟩⟩
theorem pc_post {σ : Type} {G : Gt} {Pic : σ → Ht → Prop} {d : Nat} {Y : Yt} {av : List Value} {S : σ} {mc ms : Nat} {Post Post' : Option Value → σ → Prop} (hi : ∀ r S', Post r S' → Post' r S') (k : PC G Pic d Y av S mc ms Post) : PC G Pic d Y av S mc ms Post' := fun h hp => cx_post (fun r h' ⟨S', a, b⟩ => ⟨S', a, hi r S' b⟩) (k h hp)
theorem pc_ri {σ : Type} {G : Gt} {Pic : σ → Ht → Prop} {d : Nat} {Y : Yt} {av : List Value} {S : σ} {mc ms : Nat} {P P' : Int32 → σ → Prop} (hi : ∀ x S', P x S' → P' x S') (k : PC G Pic d Y av S mc ms (ri P)) : PC G Pic d Y av S mc ms (ri P') := pc_post (fun r S' ⟨x, a, b⟩ => ⟨x, a, hi x S' b⟩) k
/-- what the text in force gives for these facts, once they are laid out -/
theorem c_gv (G : Gt) (m : Nat) (h0 : Ht) (S : MS) (hT : TF S) (w : Nat) (hw : w < 3) (o a z n f v : Int32) : PC G (MPic G m h0) 2 Y12_gives [.ref m, .int (nI w)] (sFc S o a z n f v) 0 0 (ri (fun x S' => x = tv S w (fct o a z n f v) ∧ fr [28, 29] S S')) := by
  have hT2 : TF (sFc S o a z n f v) := hT.go sFc_fr (by decide) (by decide) (by decide) (by decide)
  refine pc_ri (fun x S' hq => ⟨?_, ?_⟩) (c_X12_gives G m h0 (sFc S o a z n f v) w hw hT2)
  · rw [hq.1, tv_congr hT2 hw sFc_29, tv_go sFc_fr (by decide) (by decide) (by decide) (by decide)]
  · exact (sFc_fr.mono (by decide)).tr (hq.2.mono (by decide))
def mBear (S : MS) (c : Nat) (q : Int32) : Int32 := mHeld (tv S 0 (fct (mTk S c (mOne q) + mTk S c (mOther q)) (mBe S c q) (S 8 c) (S 9 c) 0 q)) 99
def mKeep (S : MS) (c : Nat) : Int32 := mHeld (tv S 2 (fct (mTkS S c 5) 0 (S 8 c) (S 9 c) 0 0)) 99
def mAbs (x : Int32) : Int32 := if x < 0 then -x else x
def mSeen (S : MS) (a b : Nat) : Int32 := mHeld (tv S 1 (fct (S 2 a + S 2 b) (mAbs (mSh S a - mSh S b)) 0 0 (if S 4 a = S 4 b then 0 else 1) (if a < b then S 4 a else S 4 b))) 999
set_option maxHeartbeats 4000000 in
set_option maxRecDepth 100000 in
theorem c_X12_bear (G : Gt) (m : Nat) (h0 : Ht) (S : MS) (c : Nat) (q : Int32) (hc : c < 8) (hT : TF S) : PC G (MPic G m h0) 3 Y12_bear [.ref m, .int (nI c), .int q] S 0 0 (ri (fun x S' => x = mBear S c q ∧ fr [28, 29] S S')) := by
  refine pc_of (ls := [some (.ref m), some (.int (nI c)), some (.int q)]) (by decide +kernel) rfl (Nat.le_of_ble_eq_true rfl) ?_
  refine px_aload_n dX12_bear_0 rfl rfl ?_
  refine px_aload_n dX12_bear_1 rfl rfl ?_
  refine px_iload_n dX12_bear_2 rfl rfl ?_
  refine px_iload_n dX12_bear_3 rfl rfl ?_
  refine px_pure1 dX12_bear_4 lX12_236 (c_X12_oneOf G _) (by decide) (Nat.le_of_ble_eq_true rfl) ?_
  refine mx_callI2 dX12_bear_7 lX12_124 rfl (c_X12_takes G m h0 S c _ hc) (by decide) (Nat.le_of_ble_eq_true rfl) (fun x7 S7 Q7 => ?_)
  obtain ⟨rfl, e7⟩ := Q7
  obtain rfl := e7.symm
  refine px_aload_n dX12_bear_10 rfl rfl ?_
  refine px_iload_n dX12_bear_11 rfl rfl ?_
  refine px_iload_n dX12_bear_12 rfl rfl ?_
  refine px_pure1 dX12_bear_13 lX12_239 (c_X12_otherOf G _) (by decide) (Nat.le_of_ble_eq_true rfl) ?_
  refine mx_callI2 dX12_bear_16 lX12_124 rfl (c_X12_takes G m h0 S c _ hc) (by decide) (Nat.le_of_ble_eq_true rfl) (fun x16 S16 Q16 => ?_)
  obtain ⟨rfl, e16⟩ := Q16
  obtain rfl := e16.symm
  refine px_iadd dX12_bear_19 ?_
  refine px_aload_n dX12_bear_20 rfl rfl ?_
  refine px_iload_n dX12_bear_21 rfl rfl ?_
  refine px_iload_n dX12_bear_22 rfl rfl ?_
  refine mx_callI2 dX12_bear_23 lX12_130 rfl (c_X12_bears G m h0 S c _ hc) (by decide) (Nat.le_of_ble_eq_true rfl) (fun x23 S23 Q23 => ?_)
  obtain ⟨rfl, e23⟩ := Q23
  obtain rfl := e23.symm
  refine px_aload_n dX12_bear_26 rfl rfl ?_
  refine mx_getA (k := 8) (j := 5) dX12_bear_27 gX12_25 (fun _ => rfl) ?_
  refine px_iload_n dX12_bear_30 rfl rfl ?_
  refine mx_iald (j := 5) (k := 8) _ dX12_bear_31 rfl rfl (by omega) (by decide) ?_
  refine px_aload_n dX12_bear_32 rfl rfl ?_
  refine mx_getA (k := 9) (j := 6) dX12_bear_33 gX12_28 (fun _ => rfl) ?_
  refine px_iload_n dX12_bear_36 rfl rfl ?_
  refine mx_iald (j := 6) (k := 9) _ dX12_bear_37 rfl rfl (by omega) (by decide) ?_
  refine px_iconst (v := 0) dX12_bear_38 (by decide) ?_
  refine px_iload_n dX12_bear_39 rfl rfl ?_
  refine mx_callV6 dX12_bear_40 lX12_242 rfl (c_X12_findFacts G m h0 S _ _ _ _ _ _) (by decide) (Nat.le_of_ble_eq_true rfl) (fun S40 Q40 => ?_)
  subst Q40
  refine px_aload_n dX12_bear_43 rfl rfl ?_
  refine px_iconst (v := 0) dX12_bear_44 (by decide) ?_
  refine mx_callI1 dX12_bear_45 lX12_246 rfl (c_gv G m h0 S hT 0 (by decide) _ _ _ _ _ _) (by decide) (Nat.le_of_ble_eq_true rfl) (fun x45 S45 Q45 => ?_)
  obtain ⟨e45, f45⟩ := Q45
  subst e45
  refine px_bipush (v := 99) dX12_bear_48 (by decide) ?_
  refine px_pure2 dX12_bear_50 lX12_120 (c_X12_held G _ _) (by decide) (Nat.le_of_ble_eq_true rfl) ?_
  refine px_iretI dX12_bear_53 rfl ?_
  exact ⟨rfl, f45⟩
set_option maxHeartbeats 4000000 in
set_option maxRecDepth 100000 in
theorem c_X12_keep (G : Gt) (m : Nat) (h0 : Ht) (S : MS) (c : Nat) (hc : c < 8) (hT : TF S) : PC G (MPic G m h0) 3 Y12_keep [.ref m, .int (nI c)] S 0 0 (ri (fun x S' => x = mKeep S c ∧ fr [28, 29] S S')) := by
  refine pc_of (ls := [some (.ref m), some (.int (nI c))]) (by decide +kernel) rfl (Nat.le_of_ble_eq_true rfl) ?_
  refine px_aload_n dX12_keep_0 rfl rfl ?_
  refine px_aload_n dX12_keep_1 rfl rfl ?_
  refine px_iload_n dX12_keep_2 rfl rfl ?_
  refine mx_callI1 dX12_keep_3 lX12_140 rfl (c_X12_takesAll G m h0 S c hc) (by decide) (Nat.le_of_ble_eq_true rfl) (fun x3 S3 Q3 => ?_)
  obtain ⟨rfl, e3⟩ := Q3
  obtain rfl := e3.symm
  refine px_iconst (v := 0) dX12_keep_6 (by decide) ?_
  refine px_aload_n dX12_keep_7 rfl rfl ?_
  refine mx_getA (k := 8) (j := 5) dX12_keep_8 gX12_25 (fun _ => rfl) ?_
  refine px_iload_n dX12_keep_11 rfl rfl ?_
  refine mx_iald (j := 5) (k := 8) _ dX12_keep_12 rfl rfl (by omega) (by decide) ?_
  refine px_aload_n dX12_keep_13 rfl rfl ?_
  refine mx_getA (k := 9) (j := 6) dX12_keep_14 gX12_28 (fun _ => rfl) ?_
  refine px_iload_n dX12_keep_17 rfl rfl ?_
  refine mx_iald (j := 6) (k := 9) _ dX12_keep_18 rfl rfl (by omega) (by decide) ?_
  refine px_iconst (v := 0) dX12_keep_19 (by decide) ?_
  refine px_iconst (v := 0) dX12_keep_20 (by decide) ?_
  refine mx_callV6 dX12_keep_21 lX12_242 rfl (c_X12_findFacts G m h0 S _ _ _ _ _ _) (by decide) (Nat.le_of_ble_eq_true rfl) (fun S21 Q21 => ?_)
  subst Q21
  refine px_aload_n dX12_keep_24 rfl rfl ?_
  refine px_iconst (v := 2) dX12_keep_25 (by decide) ?_
  refine mx_callI1 dX12_keep_26 lX12_246 rfl (c_gv G m h0 S hT 2 (by decide) _ _ _ _ _ _) (by decide) (Nat.le_of_ble_eq_true rfl) (fun x26 S26 Q26 => ?_)
  obtain ⟨e26, f26⟩ := Q26
  subst e26
  refine px_bipush (v := 99) dX12_keep_29 (by decide) ?_
  refine px_pure2 dX12_keep_31 lX12_120 (c_X12_held G _ _) (by decide) (Nat.le_of_ble_eq_true rfl) ?_
  refine px_iretI dX12_keep_34 rfl ?_
  exact ⟨rfl, f26⟩
set_option maxHeartbeats 4000000 in
set_option maxRecDepth 100000 in
theorem c_X12_seenOf (G : Gt) (m : Nat) (h0 : Ht) (S : MS) (a b : Nat) (ha : a < 6) (hb : b < 6) (hV : ∀ i, i < 6 → ∃ v, v < 9 ∧ S 4 i = nI v) (hT : TF S) : PC G (MPic G m h0) 3 Y12_seenOf [.ref m, .int (nI a), .int (nI b)] S 0 0 (ri (fun x S' => x = mSeen S a b ∧ fr [28, 29] S S')) := by
  refine pc_of (ls := [some (.ref m), some (.int (nI a)), some (.int (nI b)), none]) (by decide +kernel) rfl (Nat.le_of_ble_eq_true rfl) ?_
  refine px_aload_n dX12_seenOf_0 rfl rfl ?_
  refine px_iload_n dX12_seenOf_1 rfl rfl ?_
  refine mx_callI1 dX12_seenOf_2 lX12_146 rfl (c_shade G m h0 S a ha hV) (by decide) (Nat.le_of_ble_eq_true rfl) (fun x2 S2 Q2 => ?_)
  obtain ⟨rfl, e2⟩ := Q2
  obtain rfl := e2.symm
  refine px_aload_n dX12_seenOf_5 rfl rfl ?_
  refine px_iload_n dX12_seenOf_6 rfl rfl ?_
  refine mx_callI1 dX12_seenOf_7 lX12_146 rfl (c_shade G m h0 S b hb hV) (by decide) (Nat.le_of_ble_eq_true rfl) (fun x7 S7 Q7 => ?_)
  obtain ⟨rfl, e7⟩ := Q7
  obtain rfl := e7.symm
  refine px_isub dX12_seenOf_10 ?_
  refine px_istore_n3 dX12_seenOf_11 (by decide) rfl ?_
  refine px_aload_n dX12_seenOf_12 rfl rfl ?_
  refine px_aload_n dX12_seenOf_13 rfl rfl ?_
  refine mx_getA (k := 2) (j := 0) dX12_seenOf_14 gX12_7 (fun _ => rfl) ?_
  refine px_iload_n dX12_seenOf_17 rfl rfl ?_
  refine mx_iald (j := 0) (k := 2) _ dX12_seenOf_18 rfl rfl (by omega) (by decide) ?_
  refine px_aload_n dX12_seenOf_19 rfl rfl ?_
  refine mx_getA (k := 2) (j := 0) dX12_seenOf_20 gX12_7 (fun _ => rfl) ?_
  refine px_iload_n dX12_seenOf_23 rfl rfl ?_
  refine mx_iald (j := 0) (k := 2) _ dX12_seenOf_24 rfl rfl (by omega) (by decide) ?_
  refine px_iadd dX12_seenOf_25 ?_
  refine px_iload_n dX12_seenOf_26 rfl rfl ?_
  refine px_if_ge (tgt := 35) dX12_seenOf_27 (by decide) (fun H27 => ?_) (fun H27 => ?_)
  · skip
    refine px_iload_n dX12_seenOf_35 rfl rfl ?_
    refine px_iconst (v := 0) dX12_seenOf_36 (by decide) ?_
    refine px_iconst (v := 0) dX12_seenOf_37 (by decide) ?_
    refine px_aload_n dX12_seenOf_38 rfl rfl ?_
    refine mx_getA (k := 4) (j := 2) dX12_seenOf_39 gX12_16 (fun _ => rfl) ?_
    refine px_iload_n dX12_seenOf_42 rfl rfl ?_
    refine mx_iald (j := 2) (k := 4) _ dX12_seenOf_43 rfl rfl (by omega) (by decide) ?_
    refine px_aload_n dX12_seenOf_44 rfl rfl ?_
    refine mx_getA (k := 4) (j := 2) dX12_seenOf_45 gX12_16 (fun _ => rfl) ?_
    refine px_iload_n dX12_seenOf_48 rfl rfl ?_
    refine mx_iald (j := 2) (k := 4) _ dX12_seenOf_49 rfl rfl (by omega) (by decide) ?_
    refine px_icmp_ne (tgt := 57) dX12_seenOf_50 (by decide) (fun H50 => ?_) (fun H50 => ?_)
    · skip
      refine px_iconst (v := 1) dX12_seenOf_57 (by decide) ?_
      refine px_aload_n dX12_seenOf_58 rfl rfl ?_
      refine mx_getA (k := 4) (j := 2) dX12_seenOf_59 gX12_16 (fun _ => rfl) ?_
      refine px_iload_n dX12_seenOf_62 rfl rfl ?_
      refine px_iload_n dX12_seenOf_63 rfl rfl ?_
      refine px_icmp_ge (tgt := 71) dX12_seenOf_64 (by decide) (fun H64 => ?_) (fun H64 => ?_)
      · skip
        have g64 : ¬ a < b := fun e9 => H64 (nI_lt e9 (by omega))
        refine px_iload_n dX12_seenOf_71 rfl rfl ?_
        refine mx_iald (j := 2) (k := 4) _ dX12_seenOf_72 rfl rfl (by omega) (by decide) ?_
        refine mx_callV6 dX12_seenOf_73 lX12_242 rfl (c_X12_findFacts G m h0 S _ _ _ _ _ _) (by decide) (Nat.le_of_ble_eq_true rfl) (fun S73 Q73 => ?_)
        subst Q73
        refine px_aload_n dX12_seenOf_76 rfl rfl ?_
        refine px_iconst (v := 1) dX12_seenOf_77 (by decide) ?_
        refine mx_callI1 dX12_seenOf_78 lX12_246 rfl (c_gv G m h0 S hT 1 (by decide) _ _ _ _ _ _) (by decide) (Nat.le_of_ble_eq_true rfl) (fun x78 S78 Q78 => ?_)
        obtain ⟨e78, f78⟩ := Q78
        subst e78
        refine px_sipush (v := 999) dX12_seenOf_81 (by decide) ?_
        refine px_pure2 dX12_seenOf_84 lX12_120 (c_X12_held G _ _) (by decide) (Nat.le_of_ble_eq_true rfl) ?_
        refine px_iretI dX12_seenOf_87 rfl ?_
        exact ⟨by simp [mSeen, mAbs, *], f78⟩
      · skip
        have g64 : a < b := lt_n (by omega) (by omega) H64
        refine px_iload_n dX12_seenOf_67 rfl rfl ?_
        refine px_goto (tgt := 72) dX12_seenOf_68 (by decide) ?_
        refine mx_iald (j := 2) (k := 4) _ dX12_seenOf_72 rfl rfl (by omega) (by decide) ?_
        refine mx_callV6 dX12_seenOf_73 lX12_242 rfl (c_X12_findFacts G m h0 S _ _ _ _ _ _) (by decide) (Nat.le_of_ble_eq_true rfl) (fun S73 Q73 => ?_)
        subst Q73
        refine px_aload_n dX12_seenOf_76 rfl rfl ?_
        refine px_iconst (v := 1) dX12_seenOf_77 (by decide) ?_
        refine mx_callI1 dX12_seenOf_78 lX12_246 rfl (c_gv G m h0 S hT 1 (by decide) _ _ _ _ _ _) (by decide) (Nat.le_of_ble_eq_true rfl) (fun x78 S78 Q78 => ?_)
        obtain ⟨e78, f78⟩ := Q78
        subst e78
        refine px_sipush (v := 999) dX12_seenOf_81 (by decide) ?_
        refine px_pure2 dX12_seenOf_84 lX12_120 (c_X12_held G _ _) (by decide) (Nat.le_of_ble_eq_true rfl) ?_
        refine px_iretI dX12_seenOf_87 rfl ?_
        exact ⟨by simp [mSeen, mAbs, *], f78⟩
    · skip
      refine px_iconst (v := 0) dX12_seenOf_53 (by decide) ?_
      refine px_goto (tgt := 58) dX12_seenOf_54 (by decide) ?_
      refine px_aload_n dX12_seenOf_58 rfl rfl ?_
      refine mx_getA (k := 4) (j := 2) dX12_seenOf_59 gX12_16 (fun _ => rfl) ?_
      refine px_iload_n dX12_seenOf_62 rfl rfl ?_
      refine px_iload_n dX12_seenOf_63 rfl rfl ?_
      refine px_icmp_ge (tgt := 71) dX12_seenOf_64 (by decide) (fun H64 => ?_) (fun H64 => ?_)
      · skip
        have g64 : ¬ a < b := fun e9 => H64 (nI_lt e9 (by omega))
        refine px_iload_n dX12_seenOf_71 rfl rfl ?_
        refine mx_iald (j := 2) (k := 4) _ dX12_seenOf_72 rfl rfl (by omega) (by decide) ?_
        refine mx_callV6 dX12_seenOf_73 lX12_242 rfl (c_X12_findFacts G m h0 S _ _ _ _ _ _) (by decide) (Nat.le_of_ble_eq_true rfl) (fun S73 Q73 => ?_)
        subst Q73
        refine px_aload_n dX12_seenOf_76 rfl rfl ?_
        refine px_iconst (v := 1) dX12_seenOf_77 (by decide) ?_
        refine mx_callI1 dX12_seenOf_78 lX12_246 rfl (c_gv G m h0 S hT 1 (by decide) _ _ _ _ _ _) (by decide) (Nat.le_of_ble_eq_true rfl) (fun x78 S78 Q78 => ?_)
        obtain ⟨e78, f78⟩ := Q78
        subst e78
        refine px_sipush (v := 999) dX12_seenOf_81 (by decide) ?_
        refine px_pure2 dX12_seenOf_84 lX12_120 (c_X12_held G _ _) (by decide) (Nat.le_of_ble_eq_true rfl) ?_
        refine px_iretI dX12_seenOf_87 rfl ?_
        exact ⟨by simp [mSeen, mAbs, *], f78⟩
      · skip
        have g64 : a < b := lt_n (by omega) (by omega) H64
        refine px_iload_n dX12_seenOf_67 rfl rfl ?_
        refine px_goto (tgt := 72) dX12_seenOf_68 (by decide) ?_
        refine mx_iald (j := 2) (k := 4) _ dX12_seenOf_72 rfl rfl (by omega) (by decide) ?_
        refine mx_callV6 dX12_seenOf_73 lX12_242 rfl (c_X12_findFacts G m h0 S _ _ _ _ _ _) (by decide) (Nat.le_of_ble_eq_true rfl) (fun S73 Q73 => ?_)
        subst Q73
        refine px_aload_n dX12_seenOf_76 rfl rfl ?_
        refine px_iconst (v := 1) dX12_seenOf_77 (by decide) ?_
        refine mx_callI1 dX12_seenOf_78 lX12_246 rfl (c_gv G m h0 S hT 1 (by decide) _ _ _ _ _ _) (by decide) (Nat.le_of_ble_eq_true rfl) (fun x78 S78 Q78 => ?_)
        obtain ⟨e78, f78⟩ := Q78
        subst e78
        refine px_sipush (v := 999) dX12_seenOf_81 (by decide) ?_
        refine px_pure2 dX12_seenOf_84 lX12_120 (c_X12_held G _ _) (by decide) (Nat.le_of_ble_eq_true rfl) ?_
        refine px_iretI dX12_seenOf_87 rfl ?_
        exact ⟨by simp [mSeen, mAbs, *], f78⟩
  · skip
    refine px_iload_n dX12_seenOf_30 rfl rfl ?_
    refine px_ineg dX12_seenOf_31 ?_
    refine px_goto (tgt := 36) dX12_seenOf_32 (by decide) ?_
    refine px_iconst (v := 0) dX12_seenOf_36 (by decide) ?_
    refine px_iconst (v := 0) dX12_seenOf_37 (by decide) ?_
    refine px_aload_n dX12_seenOf_38 rfl rfl ?_
    refine mx_getA (k := 4) (j := 2) dX12_seenOf_39 gX12_16 (fun _ => rfl) ?_
    refine px_iload_n dX12_seenOf_42 rfl rfl ?_
    refine mx_iald (j := 2) (k := 4) _ dX12_seenOf_43 rfl rfl (by omega) (by decide) ?_
    refine px_aload_n dX12_seenOf_44 rfl rfl ?_
    refine mx_getA (k := 4) (j := 2) dX12_seenOf_45 gX12_16 (fun _ => rfl) ?_
    refine px_iload_n dX12_seenOf_48 rfl rfl ?_
    refine mx_iald (j := 2) (k := 4) _ dX12_seenOf_49 rfl rfl (by omega) (by decide) ?_
    refine px_icmp_ne (tgt := 57) dX12_seenOf_50 (by decide) (fun H50 => ?_) (fun H50 => ?_)
    · skip
      refine px_iconst (v := 1) dX12_seenOf_57 (by decide) ?_
      refine px_aload_n dX12_seenOf_58 rfl rfl ?_
      refine mx_getA (k := 4) (j := 2) dX12_seenOf_59 gX12_16 (fun _ => rfl) ?_
      refine px_iload_n dX12_seenOf_62 rfl rfl ?_
      refine px_iload_n dX12_seenOf_63 rfl rfl ?_
      refine px_icmp_ge (tgt := 71) dX12_seenOf_64 (by decide) (fun H64 => ?_) (fun H64 => ?_)
      · skip
        have g64 : ¬ a < b := fun e9 => H64 (nI_lt e9 (by omega))
        refine px_iload_n dX12_seenOf_71 rfl rfl ?_
        refine mx_iald (j := 2) (k := 4) _ dX12_seenOf_72 rfl rfl (by omega) (by decide) ?_
        refine mx_callV6 dX12_seenOf_73 lX12_242 rfl (c_X12_findFacts G m h0 S _ _ _ _ _ _) (by decide) (Nat.le_of_ble_eq_true rfl) (fun S73 Q73 => ?_)
        subst Q73
        refine px_aload_n dX12_seenOf_76 rfl rfl ?_
        refine px_iconst (v := 1) dX12_seenOf_77 (by decide) ?_
        refine mx_callI1 dX12_seenOf_78 lX12_246 rfl (c_gv G m h0 S hT 1 (by decide) _ _ _ _ _ _) (by decide) (Nat.le_of_ble_eq_true rfl) (fun x78 S78 Q78 => ?_)
        obtain ⟨e78, f78⟩ := Q78
        subst e78
        refine px_sipush (v := 999) dX12_seenOf_81 (by decide) ?_
        refine px_pure2 dX12_seenOf_84 lX12_120 (c_X12_held G _ _) (by decide) (Nat.le_of_ble_eq_true rfl) ?_
        refine px_iretI dX12_seenOf_87 rfl ?_
        exact ⟨by simp [mSeen, mAbs, *], f78⟩
      · skip
        have g64 : a < b := lt_n (by omega) (by omega) H64
        refine px_iload_n dX12_seenOf_67 rfl rfl ?_
        refine px_goto (tgt := 72) dX12_seenOf_68 (by decide) ?_
        refine mx_iald (j := 2) (k := 4) _ dX12_seenOf_72 rfl rfl (by omega) (by decide) ?_
        refine mx_callV6 dX12_seenOf_73 lX12_242 rfl (c_X12_findFacts G m h0 S _ _ _ _ _ _) (by decide) (Nat.le_of_ble_eq_true rfl) (fun S73 Q73 => ?_)
        subst Q73
        refine px_aload_n dX12_seenOf_76 rfl rfl ?_
        refine px_iconst (v := 1) dX12_seenOf_77 (by decide) ?_
        refine mx_callI1 dX12_seenOf_78 lX12_246 rfl (c_gv G m h0 S hT 1 (by decide) _ _ _ _ _ _) (by decide) (Nat.le_of_ble_eq_true rfl) (fun x78 S78 Q78 => ?_)
        obtain ⟨e78, f78⟩ := Q78
        subst e78
        refine px_sipush (v := 999) dX12_seenOf_81 (by decide) ?_
        refine px_pure2 dX12_seenOf_84 lX12_120 (c_X12_held G _ _) (by decide) (Nat.le_of_ble_eq_true rfl) ?_
        refine px_iretI dX12_seenOf_87 rfl ?_
        exact ⟨by simp [mSeen, mAbs, *], f78⟩
    · skip
      refine px_iconst (v := 0) dX12_seenOf_53 (by decide) ?_
      refine px_goto (tgt := 58) dX12_seenOf_54 (by decide) ?_
      refine px_aload_n dX12_seenOf_58 rfl rfl ?_
      refine mx_getA (k := 4) (j := 2) dX12_seenOf_59 gX12_16 (fun _ => rfl) ?_
      refine px_iload_n dX12_seenOf_62 rfl rfl ?_
      refine px_iload_n dX12_seenOf_63 rfl rfl ?_
      refine px_icmp_ge (tgt := 71) dX12_seenOf_64 (by decide) (fun H64 => ?_) (fun H64 => ?_)
      · skip
        have g64 : ¬ a < b := fun e9 => H64 (nI_lt e9 (by omega))
        refine px_iload_n dX12_seenOf_71 rfl rfl ?_
        refine mx_iald (j := 2) (k := 4) _ dX12_seenOf_72 rfl rfl (by omega) (by decide) ?_
        refine mx_callV6 dX12_seenOf_73 lX12_242 rfl (c_X12_findFacts G m h0 S _ _ _ _ _ _) (by decide) (Nat.le_of_ble_eq_true rfl) (fun S73 Q73 => ?_)
        subst Q73
        refine px_aload_n dX12_seenOf_76 rfl rfl ?_
        refine px_iconst (v := 1) dX12_seenOf_77 (by decide) ?_
        refine mx_callI1 dX12_seenOf_78 lX12_246 rfl (c_gv G m h0 S hT 1 (by decide) _ _ _ _ _ _) (by decide) (Nat.le_of_ble_eq_true rfl) (fun x78 S78 Q78 => ?_)
        obtain ⟨e78, f78⟩ := Q78
        subst e78
        refine px_sipush (v := 999) dX12_seenOf_81 (by decide) ?_
        refine px_pure2 dX12_seenOf_84 lX12_120 (c_X12_held G _ _) (by decide) (Nat.le_of_ble_eq_true rfl) ?_
        refine px_iretI dX12_seenOf_87 rfl ?_
        exact ⟨by simp [mSeen, mAbs, *], f78⟩
      · skip
        have g64 : a < b := lt_n (by omega) (by omega) H64
        refine px_iload_n dX12_seenOf_67 rfl rfl ?_
        refine px_goto (tgt := 72) dX12_seenOf_68 (by decide) ?_
        refine mx_iald (j := 2) (k := 4) _ dX12_seenOf_72 rfl rfl (by omega) (by decide) ?_
        refine mx_callV6 dX12_seenOf_73 lX12_242 rfl (c_X12_findFacts G m h0 S _ _ _ _ _ _) (by decide) (Nat.le_of_ble_eq_true rfl) (fun S73 Q73 => ?_)
        subst Q73
        refine px_aload_n dX12_seenOf_76 rfl rfl ?_
        refine px_iconst (v := 1) dX12_seenOf_77 (by decide) ?_
        refine mx_callI1 dX12_seenOf_78 lX12_246 rfl (c_gv G m h0 S hT 1 (by decide) _ _ _ _ _ _) (by decide) (Nat.le_of_ble_eq_true rfl) (fun x78 S78 Q78 => ?_)
        obtain ⟨e78, f78⟩ := Q78
        subst e78
        refine px_sipush (v := 999) dX12_seenOf_81 (by decide) ?_
        refine px_pure2 dX12_seenOf_84 lX12_120 (c_X12_held G _ _) (by decide) (Nat.le_of_ble_eq_true rfl) ?_
        refine px_iretI dX12_seenOf_87 rfl ?_
        exact ⟨by simp [mSeen, mAbs, *], f78⟩
