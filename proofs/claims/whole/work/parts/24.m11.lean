/-! THE REFERENCE: the order that brings most -/
def scg : List Nat := [28, 29, 30, 31, 32, 33, 34, 35, 36, 37, 38]
theorem frg {S T : MS} (h : fr scg S T) : fr scr S T := h.mono (by decide)
theorem gd_c {S T : MS} {n c p : Nat} (hf : fr scr S T) : gdB T n c p = gdB S n c p := by
  unfold gdB
  rw [show w3 T c p = w3 S c p from funext fun q => by unfold w3; rw [mMeet_c hf], show w2 T c p = w2 S c p from funext fun q => by unfold w2; rw [gvn_c hf, hf 2 (by decide)]]
theorem btS_c {S T : MS} {c p : Nat} (hf : fr scr S T) : ∀ h, btS T c p h = btS S c p h
  | 0 => rfl
  | h + 1 => by rw [btS, btS, btS_c hf h, gvn_c hf, hf 2 (by decide)]
theorem cnF_c {S T : MS} {n c : Nat} (hf : fr scr S T) : ∀ p, cnF T n c p = cnF S n c p
  | 0 => rfl
  | p + 1 => by simp only [cnF, cnF_c hf p, gd, gd_c hf, btS_c hf]
theorem cnF_p {S : MS} {n c : Nat} : ∀ i, ((cnF S n c i).1 = -1 ∧ (cnF S n c i).2.2 = 0) ∨ ∃ p, p < i ∧ (cnF S n c i).1 = nI p
  | 0 => Or.inl ⟨rfl, rfl⟩
  | i + 1 => by
    rw [cnF]
    by_cases hg : gd S n c i
    · rw [if_pos hg]
      rcases cnF_p (S := S) (n := n) (c := c) i with h | ⟨p, hp, e⟩
      · rw [if_pos (Or.inl (by rw [h.1]; decide))]
        exact Or.inr ⟨i, by omega, rfl⟩
      · split
        · exact Or.inr ⟨i, by omega, rfl⟩
        · exact Or.inr ⟨p, by omega, e⟩
    · rw [if_neg hg]
      rcases cnF_p (S := S) (n := n) (c := c) i with h | ⟨p, hp, e⟩
      · exact Or.inl h
      · exact Or.inr ⟨p, by omega, e⟩
theorem mTk_s {S : MS} {f : Nat → Int32} {c : Nat} {p : Int32} : mTk (setA S 2 f) c p = mTk S c p := by
  unfold mTk mPl
  rw [setA_ne (by decide), setA_ne (by decide), setA_ne (by decide)]
theorem gv5_s {S : MS} {f : Nat → Int32} {c p h : Nat} : ∀ k, gv5 (setA S 2 f) c p h k = gv5 S c p h k
  | 0 => rfl
  | k + 1 => by rw [gv5, gv5, gv5_s k, mTk_s]
theorem sub_add9 (a b c : Int32) : a - b - c = a - (b + c) := by
  rw [Int32.sub_eq_add_neg, Int32.sub_eq_add_neg, Int32.sub_eq_add_neg, Int32.neg_add, Int32.sub_eq_add_neg, Int32.add_assoc]
theorem tk_h {S : MS} {c p : Nat} {sg : Int32} (h : Nat) : ∀ k, tkF S c p sg k h = S 2 h - sg * gv5 S c p h k
  | 0 => by rw [tkF, gv5, Int32.mul_zero, Int32.sub_zero]
  | k + 1 => by
    rw [tkF, gv5]
    by_cases e : h = dg p k
    · subst e
      rw [pk_us, tk_h _ k, if_pos rfl, Int32.mul_add, sub_add9]
    · rw [pk_un e, tk_h _ k, if_neg (fun q => e q.symm), Int32.add_zero]
theorem tk_back {S : MS} {c p : Nat} : tkF (setA S 2 (tkF S c p 1 5)) c p (-1) 5 = S 2 := by
  funext h
  rw [tk_h, setA_eq, tk_h, gv5_s, sub_add9, ← Int32.add_mul, show (1 : Int32) + -1 = 0 by decide, Int32.zero_mul, Int32.sub_zero]
theorem HI.sA {S : MS} {n : Nat} {f : Nat → Int32} (h : HI S n) : HI (setA S 2 f) n := ⟨by rw [setA_ne (by decide)]; exact h.1, h.2.1, by rw [setA_ne (by decide)]; exact h.2.2.1, h.2.2.2.go (X := [2]) (fun k hk => setA_ne (fun e => hk (by simp [e]))) (by decide) (by decide) (by decide) (by decide)⟩
/-- what brings most so far: sum, order, coats -/
abbrev W3 : Type := Int32 × Int32 × Int32
def WT (T : MS) (w : W3) : Prop := T 36 0 = w.1 ∧ T 37 0 = w.2.1 ∧ T 38 0 = w.2.2
def bet (w : W3) (o k s : Int32) : W3 := if w.1 < s ∨ (s = w.1 ∧ (k < w.2.2 ∨ (k = w.2.2 ∧ o < w.2.1))) then (s, o, k) else w
def gnL (step : Nat → W3 → W3) : Nat → W3 → W3
  | 0, w => w
  | c + 1, w => step c (gnL step c w)
def hb (u c : Nat) : Bool := decide (u / 2 ^ c % 2 = 1)
def gnF (n cn : Nat) : Nat → MS → Nat → Int32 → Int32 → Int32 → W3 → W3
  | 0, _, _, _, _, _, w => w
  | f + 1, S, u, o, k, s, w => gnL (fun c w => if hb u c = true ∨ ¬ S 11 c = 0 ∨ (cnF S n c 7776).2.2 = 0 then w else gnF n cn f (setA S 2 (tkF S c (cnF S n c 7776).1.toNatClampNeg 1 5)) (u + 2 ^ c) (10 * o + nI c + 1) (k + 1) (s + mBr S c) w) (min cn 3) (bet w o k s)
/-- coats that are not yet in the order -/
def fre (u : Nat) : Nat := (1 - u % 2) + (1 - u / 2 % 2) + (1 - u / 4 % 2)
theorem hb_i {u c : Nat} (hu : u < 8) (hc : c < 3) : ((nI u >>> (nI c &&& 31)) &&& 1 = 1) ↔ hb u c = true := by
  rcases (show c = 0 ∨ c = 1 ∨ c = 2 by omega) with rfl | rfl | rfl <;> rcases (show u = 0 ∨ u = 1 ∨ u = 2 ∨ u = 3 ∨ u = 4 ∨ u = 5 ∨ u = 6 ∨ u = 7 by omega) with rfl | rfl | rfl | rfl | rfl | rfl | rfl | rfl <;> decide
theorem hb_o {u c : Nat} (hu : u < 8) (hc : c < 3) (h : ¬ hb u c = true) : (nI u ||| (1 <<< (nI c &&& 31)) = nI (u + 2 ^ c)) ∧ u + 2 ^ c < 8 ∧ fre (u + 2 ^ c) < fre u := by
  revert h
  rcases (show c = 0 ∨ c = 1 ∨ c = 2 by omega) with rfl | rfl | rfl <;> rcases (show u = 0 ∨ u = 1 ∨ u = 2 ∨ u = 3 ∨ u = 4 ∨ u = 5 ∨ u = 6 ∨ u = 7 by omega) with rfl | rfl | rfl | rfl | rfl | rfl | rfl | rfl <;> decide
theorem WT.go {X : List Nat} {T T' : MS} {w : W3} (h : WT T w) (hf : fr X T T') (h1 : 36 ∉ X) (h2 : 37 ∉ X) (h3 : 38 ∉ X) : WT T' w := by
  unfold WT
  rw [hf 36 h1, hf 37 h2, hf 38 h3]
  exact h
theorem WT.tk {T T' : MS} {f : Nat → Int32} {w : W3} (h : WT T w) (hf : fr [30] (setA T 2 f) T') : WT T' w := by
  unfold WT
  rw [hf 36 (by decide), hf 37 (by decide), hf 38 (by decide), setA_ne (by decide), setA_ne (by decide), setA_ne (by decide)]
  exact h
theorem fr_sA {X : List Nat} {S T T' : MS} {f : Nat → Int32} (h1 : fr X (setA S 2 f) T) (h2 : fr [30] (setA T 2 (S 2)) T') (h30 : 30 ∈ X) : fr X S T' := by
  intro k hk
  rw [h2 k (fun e => hk (by simp only [List.mem_cons, List.not_mem_nil, or_false] at e; subst e; exact h30))]
  by_cases e : k = 2
  · subst e; rw [setA_eq]
  · rw [setA_ne e, h1 k hk, setA_ne e]
def gnC (G : Gt) (m : Nat) (h0 : Ht) (n cn f : Nat) : Prop := ∀ (S T : MS) (u : Nat) (o k s : Int32) (w : W3), HI S n → S 6 0 = nI cn → u < 8 → fre u < f → fr scg S T → WT T w → PC G (MPic G m h0) (7 + f) Y12_goOn [.ref m, .int (nI u), .int o, .int k, .int s] T 0 0 (rv (fun S' => fr scg S S' ∧ WT S' (gnF n cn f S u o k s w)))
set_option maxHeartbeats 4000000 in
set_option maxRecDepth 100000 in
theorem lp_go (G : Gt) (m : Nat) (h0 : Ht) (S : MS) (n cn f u : Nat) (o k s : Int32) (w0 : W3) (hG : gnC G m h0 n cn f) (hI : HI S n) (hC : S 6 0 = nI cn) (hcn : cn ≤ 8) (hu : u < 8) (hfr : fre u < f + 1) : ∀ (kk c : Nat) (T : MS), fr scg S T → WT T (gnL (fun c w => if hb u c = true ∨ ¬ S 11 c = 0 ∨ (cnF S n c 7776).2.2 = 0 then w else gnF n cn f (setA S 2 (tkF S c (cnF S n c 7776).1.toNatClampNeg 1 5)) (u + 2 ^ c) (10 * o + nI c + 1) (k + 1) (s + mBr S c) w) c w0) → c ≤ 3 → c ≤ cn → 4 ≤ c + kk → PX G (MPic G m h0) (7 + (f + 1)) Y12_goOn 73 [some (.ref m), some (.int (nI u)), some (.int o), some (.int k), some (.int s), none, some (.int (nI c)), none] [] T 0 0 (rv (fun S' => fr scg S S' ∧ WT S' (gnL (fun c w => if hb u c = true ∨ ¬ S 11 c = 0 ∨ (cnF S n c 7776).2.2 = 0 then w else gnF n cn f (setA S 2 (tkF S c (cnF S n c 7776).1.toNatClampNeg 1 5)) (u + 2 ^ c) (10 * o + nI c + 1) (k + 1) (s + mBr S c) w) (min cn 3) w0))) := by
  intro kk
  induction kk with
  | zero => intro c T h1 h2 h3 h4 h5; omega
  | succ kk ih =>
    intro c T hf hw hi hi2 hk
    have h6 := hI.2.1
    refine px_iload dX12_goOn_73 rfl ?_
    refine px_aload_n dX12_goOn_75 rfl rfl ?_
    refine mx_getI (k := 6) dX12_goOn_76 gX12_113 (fun _ => rfl) ?_
    refine px_icmp_ge (tgt := 188) dX12_goOn_79 (by decide) (fun H79 => ?_) (fun H79 => ?_)
    · skip
      rw [hf 6 (by decide), hC] at H79
      have e5 := ge_n (by omega) (by omega) H79
      have e6 : c = min cn 3 := by omega
      rw [e6] at hw
      refine px_return dX12_goOn_188 rfl ?_
      exact ⟨hf, hw⟩
    · skip
      rw [hf 6 (by decide), hC] at H79
      have l4 : c < cn := lt_n (by omega) (by omega) H79
      refine px_iload dX12_goOn_82 rfl ?_
      refine px_iconst (v := 3) dX12_goOn_84 (by decide) ?_
      refine px_icmp_ge (tgt := 188) dX12_goOn_85 (by decide) (fun H85 => ?_) (fun H85 => ?_)
      · skip
        have e5 := ge_n (a := c) (b := 3) (by omega) (by omega) H85
        have e6 : c = min cn 3 := by omega
        rw [e6] at hw
        refine px_return dX12_goOn_188 rfl ?_
        exact ⟨hf, hw⟩
      · skip
        have l5 : c < 3 := lt_n (a := c) (b := 3) (by omega) (by omega) H85
        refine px_iload_n dX12_goOn_88 rfl rfl ?_
        refine px_iload dX12_goOn_89 rfl ?_
        refine px_ishr dX12_goOn_91 ?_
        refine px_iconst (v := 1) dX12_goOn_92 (by decide) ?_
        refine px_iand dX12_goOn_93 ?_
        refine px_iconst (v := 1) dX12_goOn_94 (by decide) ?_
        refine px_icmp_eq (tgt := 182) dX12_goOn_95 (by decide) (fun H95 => ?_) (fun H95 => ?_)
        · skip
          rw [hb_i hu l5] at H95
          have sk : gnL (fun c w => if hb u c = true ∨ ¬ S 11 c = 0 ∨ (cnF S n c 7776).2.2 = 0 then w else gnF n cn f (setA S 2 (tkF S c (cnF S n c 7776).1.toNatClampNeg 1 5)) (u + 2 ^ c) (10 * o + nI c + 1) (k + 1) (s + mBr S c) w) (c + 1) w0 = gnL (fun c w => if hb u c = true ∨ ¬ S 11 c = 0 ∨ (cnF S n c 7776).2.2 = 0 then w else gnF n cn f (setA S 2 (tkF S c (cnF S n c 7776).1.toNatClampNeg 1 5)) (u + 2 ^ c) (10 * o + nI c + 1) (k + 1) (s + mBr S c) w) c w0 := by rw [gnL]; exact if_pos (Or.inl H95)
          refine px_iinc_6 (v := 1) dX12_goOn_182 (by decide) (by decide) rfl ?_
          refine px_goto (tgt := 73) dX12_goOn_185 (by decide) ?_
          rw [nI_1]
          first
          | exact px_lw (by simp [LW]) (ih (c + 1) _ hf5 (by rw [sk]; exact hw5) (by omega) (by omega) (by omega))
          | exact px_lw (by simp [LW]) (ih (c + 1) _ hf2 (by rw [sk]; exact hw2) (by omega) (by omega) (by omega))
          | exact px_lw (by simp [LW]) (ih (c + 1) _ hf (by rw [sk]; exact hw) (by omega) (by omega) (by omega))
        · skip
          rw [hb_i hu l5] at H95
          obtain ⟨o1, o2, o3⟩ := hb_o hu l5 H95
          refine px_aload_n dX12_goOn_98 rfl rfl ?_
          refine mx_getA (k := 11) (j := 8) dX12_goOn_99 gX12_34 (fun _ => rfl) ?_
          refine px_iload dX12_goOn_102 rfl ?_
          refine mx_zald (j := 8) (k := 11) _ dX12_goOn_104 rfl rfl (by omega) (by decide) ?_
          refine px_if_eq (tgt := 111) dX12_goOn_105 (by decide) (fun H105 => ?_) (fun H105 => ?_)
          · skip
            rw [hf 11 (by decide)] at H105
            refine px_aload_n dX12_goOn_111 rfl rfl ?_
            refine px_iload dX12_goOn_112 rfl ?_
            refine mx_callV1 dX12_goOn_114 lX12_278 rfl (c_X12_findCan G m h0 T n c (hI.go (frg hf)) (by omega)) (by omega) (Nat.le_of_ble_eq_true rfl) (fun S114 Q114 => ?_)
            obtain ⟨f114, t1, t2, t3⟩ := Q114
            rw [cnF_c (frg hf)] at t1 t2 t3
            have hf2 : fr scg S S114 := hf.tr (f114.mono (by decide))
            have hw2 := hw.go f114 (by decide) (by decide) (by decide)
            refine px_aload_n dX12_goOn_117 rfl rfl ?_
            refine mx_getI (k := 34) dX12_goOn_118 gX12_271 (fun _ => rfl) ?_
            refine px_if_ne (tgt := 127) dX12_goOn_121 (by decide) (fun H121 => ?_) (fun H121 => ?_)
            · skip
              rw [t3] at H121
              obtain ⟨p, hp, ep⟩ : ∃ p, p < 7776 ∧ (cnF S n c 7776).1 = nI p := by
                rcases cnF_p (S := S) (n := n) (c := c) 7776 with q | q
                · exact absurd q.2 H121
                · exact q
              have tp : (cnF S n c 7776).1.toNatClampNeg = p := by rw [ep]; exact nI_clamp (by omega)
              refine px_aload_n dX12_goOn_127 rfl rfl ?_
              refine mx_getI (k := 32) dX12_goOn_128 gX12_265 (fun _ => rfl) ?_
              refine px_top (t1.trans ep) ?_
              refine px_istore_7 dX12_goOn_131 (by decide) rfl ?_
              refine px_aload_n dX12_goOn_133 rfl rfl ?_
              refine px_iload dX12_goOn_134 rfl ?_
              refine px_iload dX12_goOn_136 rfl ?_
              refine px_iconst (v := 1) dX12_goOn_138 (by decide) ?_
              refine mx_callV3 dX12_goOn_139 lX12_284 rfl (c_X12_take G m h0 S114 c p 1 (by omega) hp) (by omega) (Nat.le_of_ble_eq_true rfl) (fun S139 Q139 => ?_)
              rw [tkF_c (frg hf2)] at Q139
              have hf3 : fr scg (setA S 2 (tkF S c p 1 5)) S139 := (fr_setA hf2).tr (Q139.mono (by decide))
              have hw3 := hw2.tk Q139
              refine px_aload_n dX12_goOn_142 rfl rfl ?_
              refine px_iload_n dX12_goOn_143 rfl rfl ?_
              refine px_iconst (v := 1) dX12_goOn_144 (by decide) ?_
              refine px_iload dX12_goOn_145 rfl ?_
              refine px_ishl dX12_goOn_147 ?_
              refine px_ior dX12_goOn_148 ?_
              refine px_top o1 ?_
              refine px_bipush (v := 10) dX12_goOn_149 (by decide) ?_
              refine px_iload_n dX12_goOn_151 rfl rfl ?_
              refine px_imul dX12_goOn_152 ?_
              refine px_iload dX12_goOn_153 rfl ?_
              refine px_iadd dX12_goOn_155 ?_
              refine px_iconst (v := 1) dX12_goOn_156 (by decide) ?_
              refine px_iadd dX12_goOn_157 ?_
              refine px_iload_n dX12_goOn_158 rfl rfl ?_
              refine px_iconst (v := 1) dX12_goOn_159 (by decide) ?_
              refine px_iadd dX12_goOn_160 ?_
              refine px_iload dX12_goOn_161 rfl ?_
              refine px_aload_n dX12_goOn_163 rfl rfl ?_
              refine px_iload dX12_goOn_164 rfl ?_
              refine mx_callI1 dX12_goOn_166 lX12_136 rfl (c_X12_brings G m h0 S139 c (by omega)) (by omega) (Nat.le_of_ble_eq_true rfl) (fun x166 S166 Q166 => ?_)
              obtain ⟨e166, e166b⟩ := Q166
              obtain rfl := e166b.symm
              rw [show mBr S139 c = mBr S c from (mBr_c (frg hf3)).trans (by unfold mBr; rw [setA_ne (by decide), setA_ne (by decide), setA_ne (by decide)])] at e166
              subst e166
              refine px_iadd dX12_goOn_169 ?_
              refine mx_callV4 dX12_goOn_170 lX12_297 rfl (hG (setA S 2 (tkF S c p 1 5)) S139 (u + 2 ^ c) _ _ _ _ hI.sA (by rw [setA_ne (by decide)]; exact hC) o2 (by omega) hf3 hw3) (by omega) (Nat.le_of_ble_eq_true rfl) (fun S170 Q170 => ?_)
              obtain ⟨f170, w170⟩ := Q170
              refine px_aload_n dX12_goOn_173 rfl rfl ?_
              refine px_iload dX12_goOn_174 rfl ?_
              refine px_iload dX12_goOn_176 rfl ?_
              refine px_iconst (v := (-1)) dX12_goOn_178 (by decide) ?_
              refine mx_callV3 dX12_goOn_179 lX12_284 rfl (c_X12_take G m h0 S170 c p (-1) (by omega) hp) (by omega) (Nat.le_of_ble_eq_true rfl) (fun S179 Q179 => ?_)
              rw [tkF_c (frg f170), tk_back] at Q179
              have hf5 : fr scg S S179 := fr_sA f170 Q179 (by decide)
              have hw5 := w170.tk Q179
              have sk : gnL (fun c w => if hb u c = true ∨ ¬ S 11 c = 0 ∨ (cnF S n c 7776).2.2 = 0 then w else gnF n cn f (setA S 2 (tkF S c (cnF S n c 7776).1.toNatClampNeg 1 5)) (u + 2 ^ c) (10 * o + nI c + 1) (k + 1) (s + mBr S c) w) (c + 1) w0 = gnF n cn f (setA S 2 (tkF S c p 1 5)) (u + 2 ^ c) (10 * o + nI c + 1) (k + 1) (s + mBr S c) (gnL (fun c w => if hb u c = true ∨ ¬ S 11 c = 0 ∨ (cnF S n c 7776).2.2 = 0 then w else gnF n cn f (setA S 2 (tkF S c (cnF S n c 7776).1.toNatClampNeg 1 5)) (u + 2 ^ c) (10 * o + nI c + 1) (k + 1) (s + mBr S c) w) c w0) := by
                rw [gnL]
                have e9 : ¬ (hb u c = true ∨ ¬ S 11 c = 0 ∨ (cnF S n c 7776).2.2 = 0) := by
                  rintro (q | q | q)
                  · exact H95 q
                  · exact q H105
                  · exact H121 q
                exact (if_neg e9).trans (by rw [tp])
              refine px_iinc_6 (v := 1) dX12_goOn_182 (by decide) (by decide) rfl ?_
              refine px_goto (tgt := 73) dX12_goOn_185 (by decide) ?_
              rw [nI_1]
              first
              | exact px_lw (by simp [LW]) (ih (c + 1) _ hf5 (by rw [sk]; exact hw5) (by omega) (by omega) (by omega))
              | exact px_lw (by simp [LW]) (ih (c + 1) _ hf2 (by rw [sk]; exact hw2) (by omega) (by omega) (by omega))
              | exact px_lw (by simp [LW]) (ih (c + 1) _ hf (by rw [sk]; exact hw) (by omega) (by omega) (by omega))
            · skip
              rw [t3] at H121
              have sk : gnL (fun c w => if hb u c = true ∨ ¬ S 11 c = 0 ∨ (cnF S n c 7776).2.2 = 0 then w else gnF n cn f (setA S 2 (tkF S c (cnF S n c 7776).1.toNatClampNeg 1 5)) (u + 2 ^ c) (10 * o + nI c + 1) (k + 1) (s + mBr S c) w) (c + 1) w0 = gnL (fun c w => if hb u c = true ∨ ¬ S 11 c = 0 ∨ (cnF S n c 7776).2.2 = 0 then w else gnF n cn f (setA S 2 (tkF S c (cnF S n c 7776).1.toNatClampNeg 1 5)) (u + 2 ^ c) (10 * o + nI c + 1) (k + 1) (s + mBr S c) w) c w0 := by rw [gnL]; exact if_pos (Or.inr (Or.inr H121))
              refine px_goto (tgt := 182) dX12_goOn_124 (by decide) ?_
              refine px_iinc_6 (v := 1) dX12_goOn_182 (by decide) (by decide) rfl ?_
              refine px_goto (tgt := 73) dX12_goOn_185 (by decide) ?_
              rw [nI_1]
              first
              | exact px_lw (by simp [LW]) (ih (c + 1) _ hf5 (by rw [sk]; exact hw5) (by omega) (by omega) (by omega))
              | exact px_lw (by simp [LW]) (ih (c + 1) _ hf2 (by rw [sk]; exact hw2) (by omega) (by omega) (by omega))
              | exact px_lw (by simp [LW]) (ih (c + 1) _ hf (by rw [sk]; exact hw) (by omega) (by omega) (by omega))
          · skip
            rw [hf 11 (by decide)] at H105
            have sk : gnL (fun c w => if hb u c = true ∨ ¬ S 11 c = 0 ∨ (cnF S n c 7776).2.2 = 0 then w else gnF n cn f (setA S 2 (tkF S c (cnF S n c 7776).1.toNatClampNeg 1 5)) (u + 2 ^ c) (10 * o + nI c + 1) (k + 1) (s + mBr S c) w) (c + 1) w0 = gnL (fun c w => if hb u c = true ∨ ¬ S 11 c = 0 ∨ (cnF S n c 7776).2.2 = 0 then w else gnF n cn f (setA S 2 (tkF S c (cnF S n c 7776).1.toNatClampNeg 1 5)) (u + 2 ^ c) (10 * o + nI c + 1) (k + 1) (s + mBr S c) w) c w0 := by rw [gnL]; exact if_pos (Or.inr (Or.inl H105))
            refine px_goto (tgt := 182) dX12_goOn_108 (by decide) ?_
            refine px_iinc_6 (v := 1) dX12_goOn_182 (by decide) (by decide) rfl ?_
            refine px_goto (tgt := 73) dX12_goOn_185 (by decide) ?_
            rw [nI_1]
            first
            | exact px_lw (by simp [LW]) (ih (c + 1) _ hf5 (by rw [sk]; exact hw5) (by omega) (by omega) (by omega))
            | exact px_lw (by simp [LW]) (ih (c + 1) _ hf2 (by rw [sk]; exact hw2) (by omega) (by omega) (by omega))
            | exact px_lw (by simp [LW]) (ih (c + 1) _ hf (by rw [sk]; exact hw) (by omega) (by omega) (by omega))
set_option maxHeartbeats 4000000 in
set_option maxRecDepth 100000 in
theorem go_step (G : Gt) (m : Nat) (h0 : Ht) (S : MS) (n cn f : Nat) (hcn : cn ≤ 8) (hG : gnC G m h0 n cn f) (T : MS) (u : Nat) (o k s : Int32) (w : W3) (hI : HI S n) (hC : S 6 0 = nI cn) (hu : u < 8) (hfr : fre u < f + 1) (hf : fr scg S T) (hw : WT T w) : PC G (MPic G m h0) (7 + (f + 1)) Y12_goOn [.ref m, .int (nI u), .int o, .int k, .int s] T 0 0 (rv (fun S' => fr scg S S' ∧ WT S' (gnF n cn (f + 1) S u o k s w))) := by
  obtain ⟨w1, w2, w3⟩ := hw
  refine pc_of (ls := [some (.ref m), some (.int (nI u)), some (.int o), some (.int k), some (.int s), none, none, none]) (by decide +kernel) rfl (Nat.le_of_ble_eq_true rfl) ?_
  refine px_iload dX12_goOn_0 rfl ?_
  refine px_aload_n dX12_goOn_2 rfl rfl ?_
  refine mx_getI (k := 36) dX12_goOn_3 gX12_288 (fun _ => rfl) ?_
  refine px_icmp_gt (tgt := 42) dX12_goOn_6 (by decide) (fun H6 => ?_) (fun H6 => ?_)
  · skip
    rw [w1] at H6
    refine px_iconst (v := 1) dX12_goOn_42 (by decide) ?_
    refine px_goto (tgt := 47) dX12_goOn_43 (by decide) ?_
    refine px_istore_5 dX12_goOn_47 (by decide) rfl ?_
    refine px_iload dX12_goOn_49 rfl ?_
    refine px_if_eq (tgt := 70) dX12_goOn_51 (by decide) (fun H51 => absurd H51 (by decide)) (fun H51 => ?_)
    refine px_aload_n dX12_goOn_54 rfl rfl ?_
    refine px_iload dX12_goOn_55 rfl ?_
    refine mx_putI (k := 36) dX12_goOn_57 gX12_288 (by decide) rfl rfl ?_
    refine px_aload_n dX12_goOn_60 rfl rfl ?_
    refine px_iload_n dX12_goOn_61 rfl rfl ?_
    refine mx_putI (k := 37) dX12_goOn_62 gX12_294 (by decide) rfl rfl ?_
    refine px_aload_n dX12_goOn_65 rfl rfl ?_
    refine px_iload_n dX12_goOn_66 rfl rfl ?_
    refine mx_putI (k := 38) dX12_goOn_67 gX12_291 (by decide) rfl rfl ?_
    refine px_iconst (v := 0) dX12_goOn_70 (by decide) ?_
    refine px_istore_6 dX12_goOn_71 (by decide) rfl ?_
    refine px_lw (ls' := [some (.ref m), some (.int (nI u)), some (.int o), some (.int k), some (.int s), none, some (.int (nI 0)), none]) (by simp [LW, nI_0]) (lp_go G m h0 S n cn f u o k s (bet w o k s) hG hI hC hcn hu hfr 4 0 _ ?_ ?_ (by omega) (by omega) (by omega))
    · first | exact hf | exact ((hf.up (by decide)).up (by decide)).up (by decide)
    · rw [gnL]
      unfold WT bet
      simp [up2_eq, up2_ne, pk_us, *]
  · skip
    rw [w1] at H6
    refine px_iload dX12_goOn_9 rfl ?_
    refine px_aload_n dX12_goOn_11 rfl rfl ?_
    refine mx_getI (k := 36) dX12_goOn_12 gX12_288 (fun _ => rfl) ?_
    refine px_icmp_ne (tgt := 46) dX12_goOn_15 (by decide) (fun H15 => ?_) (fun H15 => ?_)
    · skip
      rw [w1] at H15
      refine px_iconst (v := 0) dX12_goOn_46 (by decide) ?_
      refine px_istore_5 dX12_goOn_47 (by decide) rfl ?_
      refine px_iload dX12_goOn_49 rfl ?_
      refine px_if_eq (tgt := 70) dX12_goOn_51 (by decide) (fun H51 => ?_) (fun H51 => absurd rfl H51)
      refine px_iconst (v := 0) dX12_goOn_70 (by decide) ?_
      refine px_istore_6 dX12_goOn_71 (by decide) rfl ?_
      refine px_lw (ls' := [some (.ref m), some (.int (nI u)), some (.int o), some (.int k), some (.int s), none, some (.int (nI 0)), none]) (by simp [LW, nI_0]) (lp_go G m h0 S n cn f u o k s (bet w o k s) hG hI hC hcn hu hfr 4 0 _ ?_ ?_ (by omega) (by omega) (by omega))
      · first | exact hf | exact ((hf.up (by decide)).up (by decide)).up (by decide)
      · rw [gnL]
        unfold WT bet
        simp [up2_eq, up2_ne, pk_us, *]
    · skip
      rw [w1] at H15
      refine px_iload_n dX12_goOn_18 rfl rfl ?_
      refine px_aload_n dX12_goOn_19 rfl rfl ?_
      refine mx_getI (k := 38) dX12_goOn_20 gX12_291 (fun _ => rfl) ?_
      refine px_icmp_lt (tgt := 42) dX12_goOn_23 (by decide) (fun H23 => ?_) (fun H23 => ?_)
      · skip
        rw [w3] at H23
        refine px_iconst (v := 1) dX12_goOn_42 (by decide) ?_
        refine px_goto (tgt := 47) dX12_goOn_43 (by decide) ?_
        refine px_istore_5 dX12_goOn_47 (by decide) rfl ?_
        refine px_iload dX12_goOn_49 rfl ?_
        refine px_if_eq (tgt := 70) dX12_goOn_51 (by decide) (fun H51 => absurd H51 (by decide)) (fun H51 => ?_)
        refine px_aload_n dX12_goOn_54 rfl rfl ?_
        refine px_iload dX12_goOn_55 rfl ?_
        refine mx_putI (k := 36) dX12_goOn_57 gX12_288 (by decide) rfl rfl ?_
        refine px_aload_n dX12_goOn_60 rfl rfl ?_
        refine px_iload_n dX12_goOn_61 rfl rfl ?_
        refine mx_putI (k := 37) dX12_goOn_62 gX12_294 (by decide) rfl rfl ?_
        refine px_aload_n dX12_goOn_65 rfl rfl ?_
        refine px_iload_n dX12_goOn_66 rfl rfl ?_
        refine mx_putI (k := 38) dX12_goOn_67 gX12_291 (by decide) rfl rfl ?_
        refine px_iconst (v := 0) dX12_goOn_70 (by decide) ?_
        refine px_istore_6 dX12_goOn_71 (by decide) rfl ?_
        refine px_lw (ls' := [some (.ref m), some (.int (nI u)), some (.int o), some (.int k), some (.int s), none, some (.int (nI 0)), none]) (by simp [LW, nI_0]) (lp_go G m h0 S n cn f u o k s (bet w o k s) hG hI hC hcn hu hfr 4 0 _ ?_ ?_ (by omega) (by omega) (by omega))
        · first | exact hf | exact ((hf.up (by decide)).up (by decide)).up (by decide)
        · rw [gnL]
          unfold WT bet
          simp [up2_eq, up2_ne, pk_us, *]
      · skip
        rw [w3] at H23
        refine px_iload_n dX12_goOn_26 rfl rfl ?_
        refine px_aload_n dX12_goOn_27 rfl rfl ?_
        refine mx_getI (k := 38) dX12_goOn_28 gX12_291 (fun _ => rfl) ?_
        refine px_icmp_ne (tgt := 46) dX12_goOn_31 (by decide) (fun H31 => ?_) (fun H31 => ?_)
        · skip
          rw [w3] at H31
          refine px_iconst (v := 0) dX12_goOn_46 (by decide) ?_
          refine px_istore_5 dX12_goOn_47 (by decide) rfl ?_
          refine px_iload dX12_goOn_49 rfl ?_
          refine px_if_eq (tgt := 70) dX12_goOn_51 (by decide) (fun H51 => ?_) (fun H51 => absurd rfl H51)
          refine px_iconst (v := 0) dX12_goOn_70 (by decide) ?_
          refine px_istore_6 dX12_goOn_71 (by decide) rfl ?_
          refine px_lw (ls' := [some (.ref m), some (.int (nI u)), some (.int o), some (.int k), some (.int s), none, some (.int (nI 0)), none]) (by simp [LW, nI_0]) (lp_go G m h0 S n cn f u o k s (bet w o k s) hG hI hC hcn hu hfr 4 0 _ ?_ ?_ (by omega) (by omega) (by omega))
          · first | exact hf | exact ((hf.up (by decide)).up (by decide)).up (by decide)
          · rw [gnL]
            unfold WT bet
            simp [up2_eq, up2_ne, pk_us, *]
        · skip
          rw [w3] at H31
          refine px_iload_n dX12_goOn_34 rfl rfl ?_
          refine px_aload_n dX12_goOn_35 rfl rfl ?_
          refine mx_getI (k := 37) dX12_goOn_36 gX12_294 (fun _ => rfl) ?_
          refine px_icmp_ge (tgt := 46) dX12_goOn_39 (by decide) (fun H39 => ?_) (fun H39 => ?_)
          · skip
            rw [w2] at H39
            refine px_iconst (v := 0) dX12_goOn_46 (by decide) ?_
            refine px_istore_5 dX12_goOn_47 (by decide) rfl ?_
            refine px_iload dX12_goOn_49 rfl ?_
            refine px_if_eq (tgt := 70) dX12_goOn_51 (by decide) (fun H51 => ?_) (fun H51 => absurd rfl H51)
            refine px_iconst (v := 0) dX12_goOn_70 (by decide) ?_
            refine px_istore_6 dX12_goOn_71 (by decide) rfl ?_
            refine px_lw (ls' := [some (.ref m), some (.int (nI u)), some (.int o), some (.int k), some (.int s), none, some (.int (nI 0)), none]) (by simp [LW, nI_0]) (lp_go G m h0 S n cn f u o k s (bet w o k s) hG hI hC hcn hu hfr 4 0 _ ?_ ?_ (by omega) (by omega) (by omega))
            · first | exact hf | exact ((hf.up (by decide)).up (by decide)).up (by decide)
            · rw [gnL]
              unfold WT bet
              simp [up2_eq, up2_ne, pk_us, *]
          · skip
            rw [w2] at H39
            refine px_iconst (v := 1) dX12_goOn_42 (by decide) ?_
            refine px_goto (tgt := 47) dX12_goOn_43 (by decide) ?_
            refine px_istore_5 dX12_goOn_47 (by decide) rfl ?_
            refine px_iload dX12_goOn_49 rfl ?_
            refine px_if_eq (tgt := 70) dX12_goOn_51 (by decide) (fun H51 => absurd H51 (by decide)) (fun H51 => ?_)
            refine px_aload_n dX12_goOn_54 rfl rfl ?_
            refine px_iload dX12_goOn_55 rfl ?_
            refine mx_putI (k := 36) dX12_goOn_57 gX12_288 (by decide) rfl rfl ?_
            refine px_aload_n dX12_goOn_60 rfl rfl ?_
            refine px_iload_n dX12_goOn_61 rfl rfl ?_
            refine mx_putI (k := 37) dX12_goOn_62 gX12_294 (by decide) rfl rfl ?_
            refine px_aload_n dX12_goOn_65 rfl rfl ?_
            refine px_iload_n dX12_goOn_66 rfl rfl ?_
            refine mx_putI (k := 38) dX12_goOn_67 gX12_291 (by decide) rfl rfl ?_
            refine px_iconst (v := 0) dX12_goOn_70 (by decide) ?_
            refine px_istore_6 dX12_goOn_71 (by decide) rfl ?_
            refine px_lw (ls' := [some (.ref m), some (.int (nI u)), some (.int o), some (.int k), some (.int s), none, some (.int (nI 0)), none]) (by simp [LW, nI_0]) (lp_go G m h0 S n cn f u o k s (bet w o k s) hG hI hC hcn hu hfr 4 0 _ ?_ ?_ (by omega) (by omega) (by omega))
            · first | exact hf | exact ((hf.up (by decide)).up (by decide)).up (by decide)
            · rw [gnL]
              unfold WT bet
              simp [up2_eq, up2_ne, pk_us, *]
theorem c_go (G : Gt) (m : Nat) (h0 : Ht) (n cn : Nat) (hcn : cn ≤ 8) : ∀ f, gnC G m h0 n cn f
  | 0 => fun S T u o k s w hI hC hu hfr => absurd hfr (by omega)
  | f + 1 => fun S T u o k s w hI hC hu hfr hf hw => go_step G m h0 S n cn f hcn (c_go G m h0 n cn hcn f) T u o k s w hI hC hu hfr hf hw
/-- what brings most: sum, order, coats -/
def gnA (S : MS) (n cn : Nat) : W3 := gnF n cn 4 S 0 0 0 0 (0, 0, 0)
set_option maxHeartbeats 4000000 in
set_option maxRecDepth 100000 in
theorem c_X12_findMost (G : Gt) (m : Nat) (h0 : Ht) (S T : MS) (n cn : Nat) (hI : HI S n) (hC : S 6 0 = nI cn) (hcn : cn ≤ 8) (hf : fr scg S T) : PC G (MPic G m h0) 12 Y12_findMost [.ref m] T 0 0 (rv (fun S' => fr scg S S' ∧ WT S' (gnA S n cn))) := by
  refine pc_of (ls := [some (.ref m)]) (by decide +kernel) rfl (Nat.le_of_ble_eq_true rfl) ?_
  refine px_aload_n dX12_findMost_0 rfl rfl ?_
  refine px_iconst (v := 0) dX12_findMost_1 (by decide) ?_
  refine mx_putI (k := 36) dX12_findMost_2 gX12_288 (by decide) rfl rfl ?_
  refine px_aload_n dX12_findMost_5 rfl rfl ?_
  refine px_iconst (v := 0) dX12_findMost_6 (by decide) ?_
  refine mx_putI (k := 37) dX12_findMost_7 gX12_294 (by decide) rfl rfl ?_
  refine px_aload_n dX12_findMost_10 rfl rfl ?_
  refine px_iconst (v := 0) dX12_findMost_11 (by decide) ?_
  refine mx_putI (k := 38) dX12_findMost_12 gX12_291 (by decide) rfl rfl ?_
  refine px_aload_n dX12_findMost_15 rfl rfl ?_
  refine px_iconst (v := 0) dX12_findMost_16 (by decide) ?_
  refine px_iconst (v := 0) dX12_findMost_17 (by decide) ?_
  refine px_iconst (v := 0) dX12_findMost_18 (by decide) ?_
  refine px_iconst (v := 0) dX12_findMost_19 (by decide) ?_
  refine mx_callV4 dX12_findMost_20 lX12_297 rfl (c_go G m h0 n cn hcn 4 S _ 0 0 0 0 (0, 0, 0) hI hC (by decide) (by decide) (((hf.up (by decide)).up (by decide)).up (by decide)) (by unfold WT; simp [up2_eq, up2_ne, pk_us])) (by decide) (Nat.le_of_ble_eq_true rfl) (fun S20 Q20 => ?_)
  obtain ⟨f20, w20⟩ := Q20
  refine px_return dX12_findMost_23 rfl ?_
  exact ⟨f20, w20⟩
/-- the bound: of the first coats -/
def mbF (S : MS) (n : Nat) : Nat → Int32
  | 0 => 0
  | c + 1 => mbF S n c + (if S 11 c = 0 ∧ 0 < mBr S c ∧ ¬ mAllS S n < mTkS S c 5 then mBr S c else 0)
def f_most (S : MS) (w : Int32) : Int32 := if mIn w 0 2 = 0 then -2 else if w < 2 then (if w = 0 then (gnA S (hN S) (cN S)).1 else (gnA S (hN S) (cN S)).2.1) else mbF S (hN S) (min (cN S) 3)
def moF (S : MS) (n cn : Nat) (x : Int32) : Nat → Int32 × Int32
  | 0 => ((gnA S n cn).1, -1)
  | h + 1 => if (moF S n cn x h).1 < (gnA (setA S 2 (upd (S 2) h (S 2 h + x))) n cn).1 then ((gnA (setA S 2 (upd (S 2) h (S 2 h + x))) n cn).1, nI h) else moF S n cn x h
def f_more (S : MS) (x : Int32) : Int32 := if mIn x 1 50 = 0 then -2 else (moF S (hN S) (cN S) x (hN S)).2
set_option maxHeartbeats 4000000 in
set_option maxRecDepth 100000 in
theorem lp_mb (G : Gt) (m : Nat) (h0 : Ht) (S : MS) (n cn : Nat) (w : Int32) (hH : S 1 0 = nI n) (hn : n ≤ 6) (hC : S 6 0 = nI cn) (hcn : cn ≤ 8) : ∀ (kk c : Nat), c ≤ 3 → c ≤ cn → 4 ≤ c + kk → PX G (MPic G m h0) 13 Y12_most 41 [some (.ref m), some (.int w), some (.int (mbF S n c)), some (.int (nI c))] [] S 0 0 (ri (fun x S' => x = mbF S n (min cn 3) ∧ S' = S)) := by
  intro kk
  induction kk with
  | zero => intro c h1 h2 h3; omega
  | succ kk ih =>
    intro c hi hi2 hk
    refine px_iload_n dX12_most_41 rfl rfl ?_
    refine px_aload_n dX12_most_42 rfl rfl ?_
    refine mx_getI (k := 6) dX12_most_43 gX12_113 (fun _ => rfl) ?_
    refine px_icmp_ge (tgt := 97) dX12_most_46 (by decide) (fun H46 => ?_) (fun H46 => ?_)
    · skip
      rw [hC] at H46
      have e5 := ge_n (by omega) (by omega) H46
      have e6 : c = min cn 3 := by omega
      refine px_iload_n dX12_most_97 rfl rfl ?_
      refine px_iretI dX12_most_98 rfl ?_
      exact ⟨by rw [e6], rfl⟩
    · skip
      rw [hC] at H46
      have l4 : c < cn := lt_n (by omega) (by omega) H46
      refine px_iload_n dX12_most_49 rfl rfl ?_
      refine px_iconst (v := 3) dX12_most_50 (by decide) ?_
      refine px_icmp_ge (tgt := 97) dX12_most_51 (by decide) (fun H51 => ?_) (fun H51 => ?_)
      · skip
        have e5 := ge_n (a := c) (b := 3) (by omega) (by omega) H51
        have e6 : c = min cn 3 := by omega
        refine px_iload_n dX12_most_97 rfl rfl ?_
        refine px_iretI dX12_most_98 rfl ?_
        exact ⟨by rw [e6], rfl⟩
      · skip
        have l5 : c < 3 := lt_n (a := c) (b := 3) (by omega) (by omega) H51
        refine px_aload_n dX12_most_54 rfl rfl ?_
        refine mx_getA (k := 11) (j := 8) dX12_most_55 gX12_34 (fun _ => rfl) ?_
        refine px_iload_n dX12_most_58 rfl rfl ?_
        refine mx_zald (j := 8) (k := 11) _ dX12_most_59 rfl rfl (by omega) (by decide) ?_
        refine px_if_ne (tgt := 91) dX12_most_60 (by decide) (fun H60 => ?_) (fun H60 => ?_)
        · skip
          refine px_iinc_3 (v := 1) dX12_most_91 (by decide) (by decide) rfl ?_
          refine px_goto (tgt := 41) dX12_most_94 (by decide) ?_
          refine px_lw (ls' := [some (.ref m), some (.int w), some (.int (mbF S n (c + 1))), some (.int (nI (c + 1)))]) ?_ (ih (c + 1) (by omega) (by omega) (by omega))
          clear hH hC ih
          (simp [LW, mbF, nI_1, *]; done)
        · skip
          refine px_aload_n dX12_most_63 rfl rfl ?_
          refine px_iload_n dX12_most_64 rfl rfl ?_
          refine mx_callI1 dX12_most_65 lX12_136 rfl (c_X12_brings G m h0 S c (by omega)) (by decide) (Nat.le_of_ble_eq_true rfl) (fun x65 S65 Q65 => ?_)
          obtain ⟨rfl, e65⟩ := Q65
          obtain rfl := e65.symm
          refine px_if_le (tgt := 91) dX12_most_68 (by decide) (fun H68 => ?_) (fun H68 => ?_)
          · skip
            refine px_iinc_3 (v := 1) dX12_most_91 (by decide) (by decide) rfl ?_
            refine px_goto (tgt := 41) dX12_most_94 (by decide) ?_
            refine px_lw (ls' := [some (.ref m), some (.int w), some (.int (mbF S n (c + 1))), some (.int (nI (c + 1)))]) ?_ (ih (c + 1) (by omega) (by omega) (by omega))
            clear hH hC ih
            (simp [LW, mbF, nI_1, *]; done)
          · skip
            refine px_aload_n dX12_most_71 rfl rfl ?_
            refine px_iload_n dX12_most_72 rfl rfl ?_
            refine mx_callI1 dX12_most_73 lX12_140 rfl (c_X12_takesAll G m h0 S c (by omega)) (by decide) (Nat.le_of_ble_eq_true rfl) (fun x73 S73 Q73 => ?_)
            obtain ⟨rfl, e73⟩ := Q73
            obtain rfl := e73.symm
            refine px_aload_n dX12_most_76 rfl rfl ?_
            refine mx_callI0 dX12_most_77 lX12_304 rfl (c_X12_allOunces G m h0 S n hH hn) (by decide) (Nat.le_of_ble_eq_true rfl) (fun x77 S77 Q77 => ?_)
            obtain ⟨rfl, e77⟩ := Q77
            obtain rfl := e77.symm
            refine px_icmp_gt (tgt := 91) dX12_most_80 (by decide) (fun H80 => ?_) (fun H80 => ?_)
            · skip
              refine px_iinc_3 (v := 1) dX12_most_91 (by decide) (by decide) rfl ?_
              refine px_goto (tgt := 41) dX12_most_94 (by decide) ?_
              refine px_lw (ls' := [some (.ref m), some (.int w), some (.int (mbF S n (c + 1))), some (.int (nI (c + 1)))]) ?_ (ih (c + 1) (by omega) (by omega) (by omega))
              clear hH hC ih
              (simp [LW, mbF, nI_1, *]; done)
            · skip
              refine px_iload_n dX12_most_83 rfl rfl ?_
              refine px_aload_n dX12_most_84 rfl rfl ?_
              refine px_iload_n dX12_most_85 rfl rfl ?_
              refine mx_callI1 dX12_most_86 lX12_136 rfl (c_X12_brings G m h0 S c (by omega)) (by decide) (Nat.le_of_ble_eq_true rfl) (fun x86 S86 Q86 => ?_)
              obtain ⟨rfl, e86⟩ := Q86
              obtain rfl := e86.symm
              refine px_iadd dX12_most_89 ?_
              refine px_istore_n2 dX12_most_90 (by decide) rfl ?_
              refine px_iinc_3 (v := 1) dX12_most_91 (by decide) (by decide) rfl ?_
              refine px_goto (tgt := 41) dX12_most_94 (by decide) ?_
              refine px_lw (ls' := [some (.ref m), some (.int w), some (.int (mbF S n (c + 1))), some (.int (nI (c + 1)))]) ?_ (ih (c + 1) (by omega) (by omega) (by omega))
              clear hH hC ih
              (simp [LW, mbF, nI_1, *]; done)
set_option maxHeartbeats 4000000 in
set_option maxRecDepth 100000 in
theorem c_X12_most (G : Gt) (m : Nat) (h0 : Ht) (S : MS) (w : Int32) (n : Nat) (hI : HI S n) (cn : Nat) (hC : S 6 0 = nI cn) (hcn : cn ≤ 8) : PC G (MPic G m h0) 13 Y12_most [.ref m, .int w] S 0 0 (ri (fun x S' => x = f_most S w ∧ fr scr S S')) := by
  have eN := hN_eq hI.1 (by have := hI.2.1; omega)
  have eC := cN_eq hC (by omega)
  refine pc_of (ls := [some (.ref m), some (.int w), none, none]) (by decide +kernel) rfl (Nat.le_of_ble_eq_true rfl) ?_
  refine px_iload_n dX12_most_0 rfl rfl ?_
  refine px_iconst (v := 0) dX12_most_1 (by decide) ?_
  refine px_iconst (v := 2) dX12_most_2 (by decide) ?_
  refine px_pure3 dX12_most_3 lX12_109 (c_X12_in G _ _ _) (by decide) (Nat.le_of_ble_eq_true rfl) ?_
  refine px_if_ne (tgt := 12) dX12_most_6 (by decide) (fun H6 => ?_) (fun H6 => ?_)
  · skip
    refine px_iload_n dX12_most_12 rfl rfl ?_
    refine px_iconst (v := 2) dX12_most_13 (by decide) ?_
    refine px_icmp_ge (tgt := 37) dX12_most_14 (by decide) (fun H14 => ?_) (fun H14 => ?_)
    · skip
      refine px_iconst (v := 0) dX12_most_37 (by decide) ?_
      refine px_istore_n2 dX12_most_38 (by decide) rfl ?_
      refine px_iconst (v := 0) dX12_most_39 (by decide) ?_
      refine px_istore_n3 dX12_most_40 (by decide) rfl ?_
      refine px_post (fun r S' hq => ?_) (px_lw (ls' := [some (.ref m), some (.int w), some (.int (mbF S n 0)), some (.int (nI 0))]) (by simp [LW, mbF, nI_0]) (lp_mb G m h0 S n cn w hI.1 hI.2.1 hC hcn 4 0 (by omega) (by omega) (by omega)))
      obtain ⟨x, h1, h2, h3⟩ := hq
      subst h3
      exact ⟨x, h1, by rw [h2]; simp [f_most, *], fr.rf⟩
    · skip
      refine px_aload_n dX12_most_17 rfl rfl ?_
      refine mx_callV0 dX12_most_18 lX12_301 rfl (c_X12_findMost G m h0 S S n cn hI hC hcn fr.rf) (by decide) (Nat.le_of_ble_eq_true rfl) (fun S18 Q18 => ?_)
      obtain ⟨f18, t1, t2, t3⟩ := Q18
      refine px_iload_n dX12_most_21 rfl rfl ?_
      refine px_if_ne (tgt := 32) dX12_most_22 (by decide) (fun H22 => ?_) (fun H22 => ?_)
      · skip
        refine px_aload_n dX12_most_32 rfl rfl ?_
        refine mx_getI (k := 37) dX12_most_33 gX12_294 (fun _ => rfl) ?_
        refine px_iretI dX12_most_36 rfl ?_
        refine ⟨?_, by first | exact fr.rf | exact frg f18⟩
        clear hC
        first | (simp [f_most, *]; done) | (simp [f_most, *]; intro e9; exact absurd e9 (by decide))
      · skip
        refine px_aload_n dX12_most_25 rfl rfl ?_
        refine mx_getI (k := 36) dX12_most_26 gX12_288 (fun _ => rfl) ?_
        refine px_goto (tgt := 36) dX12_most_29 (by decide) ?_
        refine px_iretI dX12_most_36 rfl ?_
        refine ⟨?_, by first | exact fr.rf | exact frg f18⟩
        clear hC
        first | (simp [f_most, *]; done) | (simp [f_most, *]; intro e9; exact absurd e9 (by decide))
  · skip
    refine px_bipush (v := (-2)) dX12_most_9 (by decide) ?_
    refine px_iretI dX12_most_11 rfl ?_
    refine ⟨?_, by first | exact fr.rf | exact frg f18⟩
    clear hC
    first | (simp [f_most, *]; done) | (simp [f_most, *]; intro e9; exact absurd e9 (by decide))
theorem upd_back {f : Nat → Int32} {i : Nat} {x : Int32} : upd (upd f i (f i + x)) i (upd f i (f i + x) i - x) = f := by
  rw [fa_upd_twice, pk_us, Int32.add_sub_cancel]
  exact fa_upd_same rfl
theorem fr_up2 {X : List Nat} {S T : MS} {i : Nat} {x : Int32} (h : fr X S T) : fr X (setA S 2 (upd (S 2) i x)) (up2 T 2 i x) := by
  intro k hk
  by_cases e : k = 2
  · subst e; rw [setA_eq, up2_eq, h 2 hk]
  · rw [setA_ne e, up2_ne e, h k hk]
theorem fr_un2 {X : List Nat} {S T : MS} {i : Nat} {x : Int32} (h2 : 2 ∉ X) (h : fr X (setA S 2 (upd (S 2) i (S 2 i + x))) T) : fr X S (up2 T 2 i (T 2 i - x)) := by
  intro k hk
  by_cases e : k = 2
  · subst e; rw [up2_eq, h 2 hk, setA_eq, upd_back]
  · rw [up2_ne e, h k hk, setA_ne e]
set_option maxHeartbeats 4000000 in
set_option maxRecDepth 100000 in
theorem lp_mo (G : Gt) (m : Nat) (h0 : Ht) (S : MS) (n cn : Nat) (x : Int32) (hI : HI S n) (hC : S 6 0 = nI cn) (hcn : cn ≤ 8) : ∀ (kk h : Nat) (T : MS), fr scg S T → h ≤ n → n + 1 ≤ h + kk → PX G (MPic G m h0) 13 Y12_more 27 [some (.ref m), some (.int x), some (.int (moF S n cn x h).1), some (.int (moF S n cn x h).2), some (.int (nI h))] [] T 0 0 (ri (fun y S' => y = (moF S n cn x n).2 ∧ fr scg S S')) := by
  intro kk
  induction kk with
  | zero => intro h T h1 h2 h3; omega
  | succ kk ih =>
    intro h T hf hi hk
    have h6 := hI.2.1
    have o2 : T 2 = S 2 := hf 2 (by decide)
    refine px_iload dX12_more_27 rfl ?_
    refine px_aload_n dX12_more_29 rfl rfl ?_
    refine mx_getI (k := 1) dX12_more_30 gX12_106 (fun _ => rfl) ?_
    refine px_icmp_ge (tgt := 87) dX12_more_33 (by decide) (fun H33 => ?_) (fun H33 => ?_)
    · skip
      rw [hf 1 (by decide), hI.1] at H33
      have e5 : h = n := by have := ge_n (by omega) (by omega) H33; omega
      subst e5
      refine px_iload_n dX12_more_87 rfl rfl ?_
      refine px_iretI dX12_more_88 rfl ?_
      exact ⟨rfl, hf⟩
    · skip
      rw [hf 1 (by decide), hI.1] at H33
      have l5 : h < n := lt_n (by omega) (by omega) H33
      refine px_aload_n dX12_more_36 rfl rfl ?_
      refine mx_getA (k := 2) (j := 0) dX12_more_37 gX12_7 (fun _ => rfl) ?_
      refine px_iload dX12_more_40 rfl ?_
      refine px_dup2 dX12_more_42 rfl rfl ?_
      refine mx_iald (j := 0) (k := 2) _ dX12_more_43 rfl rfl (by omega) (by decide) ?_
      refine px_iload_n dX12_more_44 rfl rfl ?_
      refine px_iadd dX12_more_45 ?_
      refine mx_iast (j := 0) (k := 2) _ dX12_more_46 rfl rfl (by omega) (by decide) ?_
      refine px_aload_n dX12_more_47 rfl rfl ?_
      refine px_S (S' := up2 T 2 h (S 2 h + x)) (by rw [o2]) ?_
      refine mx_callV0 dX12_more_48 lX12_301 rfl (c_X12_findMost G m h0 (setA S 2 (upd (S 2) h (S 2 h + x))) _ n cn hI.sA (by rw [setA_ne (by decide)]; exact hC) hcn (fr_up2 hf)) (by decide) (Nat.le_of_ble_eq_true rfl) (fun S48 Q48 => ?_)
      obtain ⟨f48, t1, t2, t3⟩ := Q48
      refine px_aload_n dX12_more_51 rfl rfl ?_
      refine mx_getA (k := 2) (j := 0) dX12_more_52 gX12_7 (fun _ => rfl) ?_
      refine px_iload dX12_more_55 rfl ?_
      refine px_dup2 dX12_more_57 rfl rfl ?_
      refine mx_iald (j := 0) (k := 2) _ dX12_more_58 rfl rfl (by omega) (by decide) ?_
      refine px_iload_n dX12_more_59 rfl rfl ?_
      refine px_isub dX12_more_60 ?_
      refine mx_iast (j := 0) (k := 2) _ dX12_more_61 rfl rfl (by omega) (by decide) ?_
      refine px_aload_n dX12_more_62 rfl rfl ?_
      refine mx_getI (k := 36) dX12_more_63 gX12_288 (fun _ => rfl) ?_
      refine px_iload_n dX12_more_66 rfl rfl ?_
      refine px_icmp_gt (tgt := 73) dX12_more_67 (by decide) (fun H67 => ?_) (fun H67 => ?_)
      · skip
        rw [up2_ne (by decide), t1] at H67
        refine px_aload_n dX12_more_73 rfl rfl ?_
        refine mx_getI (k := 36) dX12_more_74 gX12_288 (fun _ => rfl) ?_
        refine px_istore_n2 dX12_more_77 (by decide) rfl ?_
        refine px_iload dX12_more_78 rfl ?_
        refine px_istore_n3 dX12_more_80 (by decide) rfl ?_
        refine px_iinc_4 (v := 1) dX12_more_81 (by decide) (by decide) rfl ?_
        refine px_goto (tgt := 27) dX12_more_84 (by decide) ?_
        refine px_lw (ls' := [some (.ref m), some (.int x), some (.int (moF S n cn x (h + 1)).1), some (.int (moF S n cn x (h + 1)).2), some (.int (nI (h + 1)))]) ?_ (ih (h + 1) _ (fr_un2 (by decide) f48) (by omega) (by omega))
        rw [moF]
        simp [LW, nI_1, up2_ne, *]
      · skip
        rw [up2_ne (by decide), t1] at H67
        refine px_goto (tgt := 81) dX12_more_70 (by decide) ?_
        refine px_iinc_4 (v := 1) dX12_more_81 (by decide) (by decide) rfl ?_
        refine px_goto (tgt := 27) dX12_more_84 (by decide) ?_
        refine px_lw (ls' := [some (.ref m), some (.int x), some (.int (moF S n cn x (h + 1)).1), some (.int (moF S n cn x (h + 1)).2), some (.int (nI (h + 1)))]) ?_ (ih (h + 1) _ (fr_un2 (by decide) f48) (by omega) (by omega))
        rw [moF]
        simp [LW, nI_1, up2_ne, *]
set_option maxHeartbeats 4000000 in
set_option maxRecDepth 100000 in
theorem c_X12_more (G : Gt) (m : Nat) (h0 : Ht) (S : MS) (x : Int32) (n : Nat) (hI : HI S n) (cn : Nat) (hC : S 6 0 = nI cn) (hcn : cn ≤ 8) : PC G (MPic G m h0) 13 Y12_more [.ref m, .int x] S 0 0 (ri (fun y S' => y = f_more S x ∧ fr scr S S')) := by
  have eN := hN_eq hI.1 (by have := hI.2.1; omega)
  have eC := cN_eq hC (by omega)
  refine pc_of (ls := [some (.ref m), some (.int x), none, none, none]) (by decide +kernel) rfl (Nat.le_of_ble_eq_true rfl) ?_
  refine px_iload_n dX12_more_0 rfl rfl ?_
  refine px_iconst (v := 1) dX12_more_1 (by decide) ?_
  refine px_bipush (v := 50) dX12_more_2 (by decide) ?_
  refine px_pure3 dX12_more_4 lX12_109 (c_X12_in G _ _ _) (by decide) (Nat.le_of_ble_eq_true rfl) ?_
  refine px_if_ne (tgt := 13) dX12_more_7 (by decide) (fun H7 => ?_) (fun H7 => ?_)
  · skip
    refine px_aload_n dX12_more_13 rfl rfl ?_
    refine mx_callV0 dX12_more_14 lX12_301 rfl (c_X12_findMost G m h0 S S n cn hI hC hcn fr.rf) (by decide) (Nat.le_of_ble_eq_true rfl) (fun S14 Q14 => ?_)
    obtain ⟨f14, t1, t2, t3⟩ := Q14
    refine px_aload_n dX12_more_17 rfl rfl ?_
    refine mx_getI (k := 36) dX12_more_18 gX12_288 (fun _ => rfl) ?_
    refine px_top t1 ?_
    refine px_istore_n2 dX12_more_21 (by decide) rfl ?_
    refine px_iconst (v := (-1)) dX12_more_22 (by decide) ?_
    refine px_istore_n3 dX12_more_23 (by decide) rfl ?_
    refine px_iconst (v := 0) dX12_more_24 (by decide) ?_
    refine px_istore_4 dX12_more_25 (by decide) rfl ?_
    refine px_post (fun r S' hq => ?_) (px_lw (ls' := [some (.ref m), some (.int x), some (.int (moF S n cn x 0).1), some (.int (moF S n cn x 0).2), some (.int (nI 0))]) (by simp [LW, moF, nI_0]) (lp_mo G m h0 S n cn x hI hC hcn (n + 1) 0 _ f14 (by omega) (by omega)))
    obtain ⟨y, h1, h2, h3⟩ := hq
    exact ⟨y, h1, by rw [h2]; simp [f_more, eN, eC, H7], frg h3⟩
  · skip
    refine px_bipush (v := (-2)) dX12_more_10 (by decide) ?_
    refine px_iretI dX12_more_12 rfl ?_
    exact ⟨by simp [f_more, *], fr.rf⟩
