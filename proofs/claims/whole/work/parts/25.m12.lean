/-! THE REFERENCE: a reading: from, to, sort, what, fault, open, steps -/
def lc (g : Nat → Int32) (l : List Int32) : Nat → Int32 := fun i => if 1020 ≤ i then (l[i - 1020]?).getD (g i) else g i
theorem lc_0 {g : Nat → Int32} : lc g [] = g := by
  funext i
  simp [lc]
theorem lc_s {g : Nat → Int32} {l : List Int32} {x : Int32} : upd (lc g l) (1020 + l.length) x = lc g (l ++ [x]) := by
  funext i
  by_cases e : i = 1020 + l.length
  · subst e
    rw [pk_us]
    unfold lc
    rw [if_pos (by omega), show 1020 + l.length - 1020 = l.length by omega]
    simp
  · rw [pk_un e]
    unfold lc
    by_cases h : 1020 ≤ i
    · rw [if_pos h, if_pos h]
      rcases Nat.lt_or_ge (i - 1020) l.length with q | q
      · rw [List.getElem?_append_left q]
      · rw [List.getElem?_eq_none q, List.getElem?_eq_none (by rw [List.length_append, List.length_singleton]; omega)]
    · rw [if_neg h, if_neg h]
def lay (S : MS) (a b s : Nat) (v f : Int32) (o : Nat) (L : List (Int32 × Int32)) : MS := fun k =>
  if k = 24 then upd (S 24) 0 (nI a) else if k = 25 then upd (S 25) 0 (nI b) else if k = 26 then upd (S 26) 0 (nI s) else if k = 27 then upd (S 27) 0 v else if k = 22 then upd (S 22) 0 f else if k = 23 then upd (S 23) 0 (nI o) else if k = 21 then upd (S 21) 0 (nI L.length) else if k = 18 then lc (S 18) (L.map Prod.fst) else if k = 19 then lc (S 19) (L.map Prod.snd) else S k
section Lay
variable {S : MS} {a b s : Nat} {v f : Int32} {o : Nat} {L : List (Int32 × Int32)}
theorem g24 : lay S a b s v f o L 24 0 = nI a := rfl
theorem g25 : lay S a b s v f o L 25 0 = nI b := rfl
theorem g26 : lay S a b s v f o L 26 0 = nI s := rfl
theorem g27 : lay S a b s v f o L 27 0 = v := rfl
theorem g22 : lay S a b s v f o L 22 0 = f := rfl
theorem g23 : lay S a b s v f o L 23 0 = nI o := rfl
theorem g21 : lay S a b s v f o L 21 0 = nI L.length := rfl
theorem g15 : lay S a b s v f o L 15 0 = S 15 0 := rfl
theorem g14 : lay S a b s v f o L 14 = S 14 := rfl
theorem g16 : lay S a b s v f o L 16 0 = S 16 0 := rfl
theorem lay_a {x : Nat} : up2 (lay S a b s v f o L) 24 0 (nI x) = lay S x b s v f o L := by
  funext k
  by_cases e : k = 24
  · subst e
    rw [up2_eq]
    exact fa_upd_twice _ _ _ _
  · rw [up2_ne e]
    simp only [lay, if_neg e]
theorem lay_b {x : Nat} : up2 (lay S a b s v f o L) 25 0 (nI x) = lay S a x s v f o L := by
  funext k
  by_cases e : k = 25
  · subst e
    rw [up2_eq]
    exact fa_upd_twice _ _ _ _
  · rw [up2_ne e]
    simp only [lay, if_neg e]
theorem lay_s {x : Nat} : up2 (lay S a b s v f o L) 26 0 (nI x) = lay S a b x v f o L := by
  funext k
  by_cases e : k = 26
  · subst e
    rw [up2_eq]
    exact fa_upd_twice _ _ _ _
  · rw [up2_ne e]
    simp only [lay, if_neg e]
theorem lay_v {x : Int32} : up2 (lay S a b s v f o L) 27 0 (x) = lay S a b s x f o L := by
  funext k
  by_cases e : k = 27
  · subst e
    rw [up2_eq]
    exact fa_upd_twice _ _ _ _
  · rw [up2_ne e]
    simp only [lay, if_neg e]
theorem lay_f {x : Int32} : up2 (lay S a b s v f o L) 22 0 (x) = lay S a b s v x o L := by
  funext k
  by_cases e : k = 22
  · subst e
    rw [up2_eq]
    exact fa_upd_twice _ _ _ _
  · rw [up2_ne e]
    simp only [lay, if_neg e]
theorem lay_o {x : Nat} : up2 (lay S a b s v f o L) 23 0 (nI x) = lay S a b s v f x L := by
  funext k
  by_cases e : k = 23
  · subst e
    rw [up2_eq]
    exact fa_upd_twice _ _ _ _
  · rw [up2_ne e]
    simp only [lay, if_neg e]
theorem lay_L {x y : Int32} : up2 (up2 (up2 (lay S a b s v f o L) 18 (1020 + L.length) x) 19 (1020 + L.length) y) 21 0 (nI (L.length + 1)) = lay S a b s v f o (L ++ [(x, y)]) := by
  have e18 : upd (lc (S 18) (L.map Prod.fst)) (1020 + L.length) x = lc (S 18) ((L ++ [(x, y)]).map Prod.fst) := by
    rw [List.map_append, show List.map Prod.fst [(x, y)] = [x] from rfl, ← lc_s, List.length_map]
  have e19 : upd (lc (S 19) (L.map Prod.snd)) (1020 + L.length) y = lc (S 19) ((L ++ [(x, y)]).map Prod.snd) := by
    rw [List.map_append, show List.map Prod.snd [(x, y)] = [y] from rfl, ← lc_s, List.length_map]
  have e21 : (L ++ [(x, y)]).length = L.length + 1 := by rw [List.length_append]; rfl
  funext k
  by_cases e : k = 21
  · subst e
    rw [up2_eq, up2_ne (by decide), up2_ne (by decide)]
    show upd (upd (S 21) 0 _) 0 _ = upd (S 21) 0 (nI (L ++ [(x, y)]).length)
    rw [fa_upd_twice, e21]
  · rw [up2_ne e]
    by_cases e2 : k = 19
    · subst e2
      rw [up2_eq, up2_ne (by decide)]
      exact e19
    · rw [up2_ne e2]
      by_cases e3 : k = 18
      · subst e3
        rw [up2_eq]
        exact e18
      · rw [up2_ne e3]
        simp only [lay, if_neg e, if_neg e2, if_neg e3]
theorem lay_fr : fr [18, 19, 21, 22, 23, 24, 25, 26, 27] S (lay S a b s v f o L) := by
  intro k hk
  simp only [List.mem_cons, List.not_mem_nil, or_false, not_or] at hk
  simp only [lay, hk, if_false]
end Lay
/-- runs of places with Pr, before t -/
def run (Pr : Nat → Bool) (t : Nat) : Nat → Nat → Nat
  | 0, a => a
  | n + 1, a => if a < t ∧ Pr a = true then run Pr t n (a + 1) else a
def rn (Pr : Nat → Bool) (t a : Nat) : Nat := run Pr t (t - a) a
theorem rn_go {Pr : Nat → Bool} {t a : Nat} (h : a < t) (hp : Pr a = true) : rn Pr t a = rn Pr t (a + 1) := by
  unfold rn
  rw [show t - a = (t - (a + 1)) + 1 by omega, run, if_pos ⟨h, hp⟩]
theorem rn_no {Pr : Nat → Bool} {t a : Nat} (hp : ¬ Pr a = true) : rn Pr t a = a := by
  unfold rn
  generalize t - a = n
  cases n with
  | zero => rfl
  | succ n => rw [run, if_neg (fun q => hp q.2)]
theorem rn_end {Pr : Nat → Bool} {t a : Nat} (h : t ≤ a) : rn Pr t a = a := by
  unfold rn
  rw [show t - a = 0 by omega, run]
theorem rn_le {Pr : Nat → Bool} {t : Nat} : ∀ (n a : Nat), t - a ≤ n → a ≤ t → a ≤ rn Pr t a ∧ rn Pr t a ≤ t := by
  intro n
  induction n with
  | zero => intro a h1 h2; rw [rn_end (by omega)]; omega
  | succ n ih =>
    intro a h1 h2
    rcases Nat.lt_or_ge a t with q | q
    · by_cases hp : Pr a = true
      · rw [rn_go q hp]
        have := ih (a + 1) (by omega) (by omega)
        omega
      · rw [rn_no hp]; omega
    · rw [rn_end q]; omega
def blk (tp : Nat → Int32) (i : Nat) : Bool := decide (tp i = 32 ∨ tp i = 10)
def ltr (tp : Nat → Int32) (i : Nat) : Bool := decide (¬ mIn (tp i) 97 122 = 0)
def dgt (tp : Nat → Int32) (i : Nat) : Bool := decide (¬ mIn (tp i) 48 57 = 0)
def isWb (tp : Nat → Int32) (a b : Nat) (c1 c2 c3 c4 c5 c6 : Int32) (n : Nat) : Bool := decide (b - a = n ∧ (n < 1 ∨ tp a = c1) ∧ (n < 2 ∨ tp (a + 1) = c2) ∧ (n < 3 ∨ tp (a + 2) = c3) ∧ (n < 4 ∨ tp (a + 3) = c4) ∧ (n < 5 ∨ tp (a + 4) = c5) ∧ (n < 6 ∨ tp (a + 5) = c6))
def bI (b : Bool) : Int32 := if b = true then 1 else 0
theorem bI_0 {b : Bool} : bI b = 0 ↔ ¬ b = true := by cases b <;> decide
theorem bI_01 (b : Bool) : bI b = 0 ∨ bI b = 1 := by cases b <;> decide
theorem lw_1 {n : Nat} (h : n ≤ 6) : (nI n < 1) = (n < 1) := propext (nI_ltI (b := 1) (by omega) (by omega))
theorem lw_2 {n : Nat} (h : n ≤ 6) : (nI n < 2) = (n < 2) := propext (nI_ltI (b := 2) (by omega) (by omega))
theorem lw_3 {n : Nat} (h : n ≤ 6) : (nI n < 3) = (n < 3) := propext (nI_ltI (b := 3) (by omega) (by omega))
theorem lw_4 {n : Nat} (h : n ≤ 6) : (nI n < 4) = (n < 4) := propext (nI_ltI (b := 4) (by omega) (by omega))
theorem lw_5 {n : Nat} (h : n ≤ 6) : (nI n < 5) = (n < 5) := propext (nI_ltI (b := 5) (by omega) (by omega))
theorem lw_6 {n : Nat} (h : n ≤ 6) : (nI n < 6) = (n < 6) := propext (nI_ltI (b := 6) (by omega) (by omega))
theorem sub_n {a b n : Nat} (h : a ≤ b) (hb : b ≤ 160) (hn : n ≤ 6) : (nI b - nI a = nI n) = (b - a = n) := by
  rw [pk_sub h]
  exact propext (nI_eq (by omega) (by omega))
set_option maxHeartbeats 4000000 in
set_option maxRecDepth 100000 in
theorem c_X12_isWord (G : Gt) (m : Nat) (h0 : Ht) (S : MS) (a b s : Nat) (v f : Int32) (o : Nat) (L : List (Int32 × Int32)) (c1 c2 c3 c4 c5 c6 : Int32) (n : Nat) (hn : n ≤ 6) (hab : a ≤ b) (hb : b ≤ 160) : PC G (MPic G m h0) 1 Y12_isWord [.ref m, .int c1, .int c2, .int c3, .int c4, .int c5, .int c6, .int (nI n)] (lay S a b s v f o L) 0 0 (ri (fun x S' => x = bI (isWb (S 14) a b c1 c2 c3 c4 c5 c6 n) ∧ S' = (lay S a b s v f o L))) := by
  refine pc_of (ls := [some (.ref m), some (.int c1), some (.int c2), some (.int c3), some (.int c4), some (.int c5), some (.int c6), some (.int (nI n))]) (by decide +kernel) rfl (Nat.le_of_ble_eq_true rfl) ?_
  refine px_aload_n dX12_isWord_0 rfl rfl ?_
  refine mx_getI (k := 25) dX12_isWord_1 gX12_152 (fun _ => rfl) ?_
  refine px_aload_n dX12_isWord_4 rfl rfl ?_
  refine mx_getI (k := 24) dX12_isWord_5 gX12_155 (fun _ => rfl) ?_
  refine px_isub dX12_isWord_8 ?_
  refine px_iload dX12_isWord_9 rfl ?_
  refine px_icmp_eq (tgt := 16) dX12_isWord_11 (by decide) (fun H11 => ?_) (fun H11 => ?_)
  · skip
    rw [g25, g24, sub_n hab hb hn] at H11
    refine px_iload dX12_isWord_16 rfl ?_
    refine px_iconst (v := 1) dX12_isWord_18 (by decide) ?_
    refine px_icmp_lt (tgt := 35) dX12_isWord_19 (by decide) (fun H19 => ?_) (fun H19 => ?_)
    · skip
      rw [lw_1 hn] at H19
      refine px_iload dX12_isWord_35 rfl ?_
      refine px_iconst (v := 2) dX12_isWord_37 (by decide) ?_
      refine px_icmp_lt (tgt := 56) dX12_isWord_38 (by decide) (fun H38 => ?_) (fun H38 => ?_)
      · skip
        rw [lw_2 hn] at H38
        refine px_iload dX12_isWord_56 rfl ?_
        refine px_iconst (v := 3) dX12_isWord_58 (by decide) ?_
        refine px_icmp_lt (tgt := 77) dX12_isWord_59 (by decide) (fun H59 => ?_) (fun H59 => ?_)
        · skip
          rw [lw_3 hn] at H59
          refine px_iload dX12_isWord_77 rfl ?_
          refine px_iconst (v := 4) dX12_isWord_79 (by decide) ?_
          refine px_icmp_lt (tgt := 99) dX12_isWord_80 (by decide) (fun H80 => ?_) (fun H80 => ?_)
          · skip
            rw [lw_4 hn] at H80
            refine px_iload dX12_isWord_99 rfl ?_
            refine px_iconst (v := 5) dX12_isWord_101 (by decide) ?_
            refine px_icmp_lt (tgt := 121) dX12_isWord_102 (by decide) (fun H102 => ?_) (fun H102 => ?_)
            · skip
              rw [lw_5 hn] at H102
              refine px_iload dX12_isWord_121 rfl ?_
              refine px_bipush (v := 6) dX12_isWord_123 (by decide) ?_
              refine px_icmp_lt (tgt := 144) dX12_isWord_125 (by decide) (fun H125 => ?_) (fun H125 => ?_)
              · skip
                rw [lw_6 hn] at H125
                refine px_iconst (v := 1) dX12_isWord_144 (by decide) ?_
                refine px_goto (tgt := 149) dX12_isWord_145 (by decide) ?_
                refine px_iretZ dX12_isWord_149 rfl (by first | rfl | decide) ?_
                exact ⟨by first | (simp [bI, isWb, *]; done) | (simp [bI, isWb, *]; omega), rfl⟩
              · skip
                rw [lw_6 hn] at H125
                refine px_aload_n dX12_isWord_128 rfl rfl ?_
                refine mx_getA (k := 14) (j := 11) dX12_isWord_129 gX12_44 (fun _ => rfl) ?_
                refine px_aload_n dX12_isWord_132 rfl rfl ?_
                refine mx_getI (k := 24) dX12_isWord_133 gX12_155 (fun _ => rfl) ?_
                refine px_iconst (v := 5) dX12_isWord_136 (by decide) ?_
                refine px_iadd dX12_isWord_137 ?_
                refine mx_bald (j := 11) (k := 14) (a + 5) dX12_isWord_138 rfl (show nI a + nI 5 = nI (a + 5) from nI_add ..) (by omega) (by decide) ?_
                refine px_iload dX12_isWord_139 rfl ?_
                refine px_icmp_ne (tgt := 148) dX12_isWord_141 (by decide) (fun H141 => ?_) (fun H141 => ?_)
                · skip
                  rw [g14] at H141
                  refine px_iconst (v := 0) dX12_isWord_148 (by decide) ?_
                  refine px_iretZ dX12_isWord_149 rfl (by first | rfl | decide) ?_
                  exact ⟨by first | (simp [bI, isWb, *]; done) | (simp [bI, isWb, *]; omega), rfl⟩
                · skip
                  rw [g14] at H141
                  refine px_iconst (v := 1) dX12_isWord_144 (by decide) ?_
                  refine px_goto (tgt := 149) dX12_isWord_145 (by decide) ?_
                  refine px_iretZ dX12_isWord_149 rfl (by first | rfl | decide) ?_
                  exact ⟨by first | (simp [bI, isWb, *]; done) | (simp [bI, isWb, *]; omega), rfl⟩
            · skip
              rw [lw_5 hn] at H102
              refine px_aload_n dX12_isWord_105 rfl rfl ?_
              refine mx_getA (k := 14) (j := 11) dX12_isWord_106 gX12_44 (fun _ => rfl) ?_
              refine px_aload_n dX12_isWord_109 rfl rfl ?_
              refine mx_getI (k := 24) dX12_isWord_110 gX12_155 (fun _ => rfl) ?_
              refine px_iconst (v := 4) dX12_isWord_113 (by decide) ?_
              refine px_iadd dX12_isWord_114 ?_
              refine mx_bald (j := 11) (k := 14) (a + 4) dX12_isWord_115 rfl (show nI a + nI 4 = nI (a + 4) from nI_add ..) (by omega) (by decide) ?_
              refine px_iload dX12_isWord_116 rfl ?_
              refine px_icmp_ne (tgt := 148) dX12_isWord_118 (by decide) (fun H118 => ?_) (fun H118 => ?_)
              · skip
                rw [g14] at H118
                refine px_iconst (v := 0) dX12_isWord_148 (by decide) ?_
                refine px_iretZ dX12_isWord_149 rfl (by first | rfl | decide) ?_
                exact ⟨by first | (simp [bI, isWb, *]; done) | (simp [bI, isWb, *]; omega), rfl⟩
              · skip
                rw [g14] at H118
                refine px_iload dX12_isWord_121 rfl ?_
                refine px_bipush (v := 6) dX12_isWord_123 (by decide) ?_
                refine px_icmp_lt (tgt := 144) dX12_isWord_125 (by decide) (fun H125 => ?_) (fun H125 => ?_)
                · skip
                  rw [lw_6 hn] at H125
                  refine px_iconst (v := 1) dX12_isWord_144 (by decide) ?_
                  refine px_goto (tgt := 149) dX12_isWord_145 (by decide) ?_
                  refine px_iretZ dX12_isWord_149 rfl (by first | rfl | decide) ?_
                  exact ⟨by first | (simp [bI, isWb, *]; done) | (simp [bI, isWb, *]; omega), rfl⟩
                · skip
                  rw [lw_6 hn] at H125
                  refine px_aload_n dX12_isWord_128 rfl rfl ?_
                  refine mx_getA (k := 14) (j := 11) dX12_isWord_129 gX12_44 (fun _ => rfl) ?_
                  refine px_aload_n dX12_isWord_132 rfl rfl ?_
                  refine mx_getI (k := 24) dX12_isWord_133 gX12_155 (fun _ => rfl) ?_
                  refine px_iconst (v := 5) dX12_isWord_136 (by decide) ?_
                  refine px_iadd dX12_isWord_137 ?_
                  refine mx_bald (j := 11) (k := 14) (a + 5) dX12_isWord_138 rfl (show nI a + nI 5 = nI (a + 5) from nI_add ..) (by omega) (by decide) ?_
                  refine px_iload dX12_isWord_139 rfl ?_
                  refine px_icmp_ne (tgt := 148) dX12_isWord_141 (by decide) (fun H141 => ?_) (fun H141 => ?_)
                  · skip
                    rw [g14] at H141
                    refine px_iconst (v := 0) dX12_isWord_148 (by decide) ?_
                    refine px_iretZ dX12_isWord_149 rfl (by first | rfl | decide) ?_
                    exact ⟨by first | (simp [bI, isWb, *]; done) | (simp [bI, isWb, *]; omega), rfl⟩
                  · skip
                    rw [g14] at H141
                    refine px_iconst (v := 1) dX12_isWord_144 (by decide) ?_
                    refine px_goto (tgt := 149) dX12_isWord_145 (by decide) ?_
                    refine px_iretZ dX12_isWord_149 rfl (by first | rfl | decide) ?_
                    exact ⟨by first | (simp [bI, isWb, *]; done) | (simp [bI, isWb, *]; omega), rfl⟩
          · skip
            rw [lw_4 hn] at H80
            refine px_aload_n dX12_isWord_83 rfl rfl ?_
            refine mx_getA (k := 14) (j := 11) dX12_isWord_84 gX12_44 (fun _ => rfl) ?_
            refine px_aload_n dX12_isWord_87 rfl rfl ?_
            refine mx_getI (k := 24) dX12_isWord_88 gX12_155 (fun _ => rfl) ?_
            refine px_iconst (v := 3) dX12_isWord_91 (by decide) ?_
            refine px_iadd dX12_isWord_92 ?_
            refine mx_bald (j := 11) (k := 14) (a + 3) dX12_isWord_93 rfl (show nI a + nI 3 = nI (a + 3) from nI_add ..) (by omega) (by decide) ?_
            refine px_iload dX12_isWord_94 rfl ?_
            refine px_icmp_ne (tgt := 148) dX12_isWord_96 (by decide) (fun H96 => ?_) (fun H96 => ?_)
            · skip
              rw [g14] at H96
              refine px_iconst (v := 0) dX12_isWord_148 (by decide) ?_
              refine px_iretZ dX12_isWord_149 rfl (by first | rfl | decide) ?_
              exact ⟨by first | (simp [bI, isWb, *]; done) | (simp [bI, isWb, *]; omega), rfl⟩
            · skip
              rw [g14] at H96
              refine px_iload dX12_isWord_99 rfl ?_
              refine px_iconst (v := 5) dX12_isWord_101 (by decide) ?_
              refine px_icmp_lt (tgt := 121) dX12_isWord_102 (by decide) (fun H102 => ?_) (fun H102 => ?_)
              · skip
                rw [lw_5 hn] at H102
                refine px_iload dX12_isWord_121 rfl ?_
                refine px_bipush (v := 6) dX12_isWord_123 (by decide) ?_
                refine px_icmp_lt (tgt := 144) dX12_isWord_125 (by decide) (fun H125 => ?_) (fun H125 => ?_)
                · skip
                  rw [lw_6 hn] at H125
                  refine px_iconst (v := 1) dX12_isWord_144 (by decide) ?_
                  refine px_goto (tgt := 149) dX12_isWord_145 (by decide) ?_
                  refine px_iretZ dX12_isWord_149 rfl (by first | rfl | decide) ?_
                  exact ⟨by first | (simp [bI, isWb, *]; done) | (simp [bI, isWb, *]; omega), rfl⟩
                · skip
                  rw [lw_6 hn] at H125
                  refine px_aload_n dX12_isWord_128 rfl rfl ?_
                  refine mx_getA (k := 14) (j := 11) dX12_isWord_129 gX12_44 (fun _ => rfl) ?_
                  refine px_aload_n dX12_isWord_132 rfl rfl ?_
                  refine mx_getI (k := 24) dX12_isWord_133 gX12_155 (fun _ => rfl) ?_
                  refine px_iconst (v := 5) dX12_isWord_136 (by decide) ?_
                  refine px_iadd dX12_isWord_137 ?_
                  refine mx_bald (j := 11) (k := 14) (a + 5) dX12_isWord_138 rfl (show nI a + nI 5 = nI (a + 5) from nI_add ..) (by omega) (by decide) ?_
                  refine px_iload dX12_isWord_139 rfl ?_
                  refine px_icmp_ne (tgt := 148) dX12_isWord_141 (by decide) (fun H141 => ?_) (fun H141 => ?_)
                  · skip
                    rw [g14] at H141
                    refine px_iconst (v := 0) dX12_isWord_148 (by decide) ?_
                    refine px_iretZ dX12_isWord_149 rfl (by first | rfl | decide) ?_
                    exact ⟨by first | (simp [bI, isWb, *]; done) | (simp [bI, isWb, *]; omega), rfl⟩
                  · skip
                    rw [g14] at H141
                    refine px_iconst (v := 1) dX12_isWord_144 (by decide) ?_
                    refine px_goto (tgt := 149) dX12_isWord_145 (by decide) ?_
                    refine px_iretZ dX12_isWord_149 rfl (by first | rfl | decide) ?_
                    exact ⟨by first | (simp [bI, isWb, *]; done) | (simp [bI, isWb, *]; omega), rfl⟩
              · skip
                rw [lw_5 hn] at H102
                refine px_aload_n dX12_isWord_105 rfl rfl ?_
                refine mx_getA (k := 14) (j := 11) dX12_isWord_106 gX12_44 (fun _ => rfl) ?_
                refine px_aload_n dX12_isWord_109 rfl rfl ?_
                refine mx_getI (k := 24) dX12_isWord_110 gX12_155 (fun _ => rfl) ?_
                refine px_iconst (v := 4) dX12_isWord_113 (by decide) ?_
                refine px_iadd dX12_isWord_114 ?_
                refine mx_bald (j := 11) (k := 14) (a + 4) dX12_isWord_115 rfl (show nI a + nI 4 = nI (a + 4) from nI_add ..) (by omega) (by decide) ?_
                refine px_iload dX12_isWord_116 rfl ?_
                refine px_icmp_ne (tgt := 148) dX12_isWord_118 (by decide) (fun H118 => ?_) (fun H118 => ?_)
                · skip
                  rw [g14] at H118
                  refine px_iconst (v := 0) dX12_isWord_148 (by decide) ?_
                  refine px_iretZ dX12_isWord_149 rfl (by first | rfl | decide) ?_
                  exact ⟨by first | (simp [bI, isWb, *]; done) | (simp [bI, isWb, *]; omega), rfl⟩
                · skip
                  rw [g14] at H118
                  refine px_iload dX12_isWord_121 rfl ?_
                  refine px_bipush (v := 6) dX12_isWord_123 (by decide) ?_
                  refine px_icmp_lt (tgt := 144) dX12_isWord_125 (by decide) (fun H125 => ?_) (fun H125 => ?_)
                  · skip
                    rw [lw_6 hn] at H125
                    refine px_iconst (v := 1) dX12_isWord_144 (by decide) ?_
                    refine px_goto (tgt := 149) dX12_isWord_145 (by decide) ?_
                    refine px_iretZ dX12_isWord_149 rfl (by first | rfl | decide) ?_
                    exact ⟨by first | (simp [bI, isWb, *]; done) | (simp [bI, isWb, *]; omega), rfl⟩
                  · skip
                    rw [lw_6 hn] at H125
                    refine px_aload_n dX12_isWord_128 rfl rfl ?_
                    refine mx_getA (k := 14) (j := 11) dX12_isWord_129 gX12_44 (fun _ => rfl) ?_
                    refine px_aload_n dX12_isWord_132 rfl rfl ?_
                    refine mx_getI (k := 24) dX12_isWord_133 gX12_155 (fun _ => rfl) ?_
                    refine px_iconst (v := 5) dX12_isWord_136 (by decide) ?_
                    refine px_iadd dX12_isWord_137 ?_
                    refine mx_bald (j := 11) (k := 14) (a + 5) dX12_isWord_138 rfl (show nI a + nI 5 = nI (a + 5) from nI_add ..) (by omega) (by decide) ?_
                    refine px_iload dX12_isWord_139 rfl ?_
                    refine px_icmp_ne (tgt := 148) dX12_isWord_141 (by decide) (fun H141 => ?_) (fun H141 => ?_)
                    · skip
                      rw [g14] at H141
                      refine px_iconst (v := 0) dX12_isWord_148 (by decide) ?_
                      refine px_iretZ dX12_isWord_149 rfl (by first | rfl | decide) ?_
                      exact ⟨by first | (simp [bI, isWb, *]; done) | (simp [bI, isWb, *]; omega), rfl⟩
                    · skip
                      rw [g14] at H141
                      refine px_iconst (v := 1) dX12_isWord_144 (by decide) ?_
                      refine px_goto (tgt := 149) dX12_isWord_145 (by decide) ?_
                      refine px_iretZ dX12_isWord_149 rfl (by first | rfl | decide) ?_
                      exact ⟨by first | (simp [bI, isWb, *]; done) | (simp [bI, isWb, *]; omega), rfl⟩
        · skip
          rw [lw_3 hn] at H59
          refine px_aload_n dX12_isWord_62 rfl rfl ?_
          refine mx_getA (k := 14) (j := 11) dX12_isWord_63 gX12_44 (fun _ => rfl) ?_
          refine px_aload_n dX12_isWord_66 rfl rfl ?_
          refine mx_getI (k := 24) dX12_isWord_67 gX12_155 (fun _ => rfl) ?_
          refine px_iconst (v := 2) dX12_isWord_70 (by decide) ?_
          refine px_iadd dX12_isWord_71 ?_
          refine mx_bald (j := 11) (k := 14) (a + 2) dX12_isWord_72 rfl (show nI a + nI 2 = nI (a + 2) from nI_add ..) (by omega) (by decide) ?_
          refine px_iload_n dX12_isWord_73 rfl rfl ?_
          refine px_icmp_ne (tgt := 148) dX12_isWord_74 (by decide) (fun H74 => ?_) (fun H74 => ?_)
          · skip
            rw [g14] at H74
            refine px_iconst (v := 0) dX12_isWord_148 (by decide) ?_
            refine px_iretZ dX12_isWord_149 rfl (by first | rfl | decide) ?_
            exact ⟨by first | (simp [bI, isWb, *]; done) | (simp [bI, isWb, *]; omega), rfl⟩
          · skip
            rw [g14] at H74
            refine px_iload dX12_isWord_77 rfl ?_
            refine px_iconst (v := 4) dX12_isWord_79 (by decide) ?_
            refine px_icmp_lt (tgt := 99) dX12_isWord_80 (by decide) (fun H80 => ?_) (fun H80 => ?_)
            · skip
              rw [lw_4 hn] at H80
              refine px_iload dX12_isWord_99 rfl ?_
              refine px_iconst (v := 5) dX12_isWord_101 (by decide) ?_
              refine px_icmp_lt (tgt := 121) dX12_isWord_102 (by decide) (fun H102 => ?_) (fun H102 => ?_)
              · skip
                rw [lw_5 hn] at H102
                refine px_iload dX12_isWord_121 rfl ?_
                refine px_bipush (v := 6) dX12_isWord_123 (by decide) ?_
                refine px_icmp_lt (tgt := 144) dX12_isWord_125 (by decide) (fun H125 => ?_) (fun H125 => ?_)
                · skip
                  rw [lw_6 hn] at H125
                  refine px_iconst (v := 1) dX12_isWord_144 (by decide) ?_
                  refine px_goto (tgt := 149) dX12_isWord_145 (by decide) ?_
                  refine px_iretZ dX12_isWord_149 rfl (by first | rfl | decide) ?_
                  exact ⟨by first | (simp [bI, isWb, *]; done) | (simp [bI, isWb, *]; omega), rfl⟩
                · skip
                  rw [lw_6 hn] at H125
                  refine px_aload_n dX12_isWord_128 rfl rfl ?_
                  refine mx_getA (k := 14) (j := 11) dX12_isWord_129 gX12_44 (fun _ => rfl) ?_
                  refine px_aload_n dX12_isWord_132 rfl rfl ?_
                  refine mx_getI (k := 24) dX12_isWord_133 gX12_155 (fun _ => rfl) ?_
                  refine px_iconst (v := 5) dX12_isWord_136 (by decide) ?_
                  refine px_iadd dX12_isWord_137 ?_
                  refine mx_bald (j := 11) (k := 14) (a + 5) dX12_isWord_138 rfl (show nI a + nI 5 = nI (a + 5) from nI_add ..) (by omega) (by decide) ?_
                  refine px_iload dX12_isWord_139 rfl ?_
                  refine px_icmp_ne (tgt := 148) dX12_isWord_141 (by decide) (fun H141 => ?_) (fun H141 => ?_)
                  · skip
                    rw [g14] at H141
                    refine px_iconst (v := 0) dX12_isWord_148 (by decide) ?_
                    refine px_iretZ dX12_isWord_149 rfl (by first | rfl | decide) ?_
                    exact ⟨by first | (simp [bI, isWb, *]; done) | (simp [bI, isWb, *]; omega), rfl⟩
                  · skip
                    rw [g14] at H141
                    refine px_iconst (v := 1) dX12_isWord_144 (by decide) ?_
                    refine px_goto (tgt := 149) dX12_isWord_145 (by decide) ?_
                    refine px_iretZ dX12_isWord_149 rfl (by first | rfl | decide) ?_
                    exact ⟨by first | (simp [bI, isWb, *]; done) | (simp [bI, isWb, *]; omega), rfl⟩
              · skip
                rw [lw_5 hn] at H102
                refine px_aload_n dX12_isWord_105 rfl rfl ?_
                refine mx_getA (k := 14) (j := 11) dX12_isWord_106 gX12_44 (fun _ => rfl) ?_
                refine px_aload_n dX12_isWord_109 rfl rfl ?_
                refine mx_getI (k := 24) dX12_isWord_110 gX12_155 (fun _ => rfl) ?_
                refine px_iconst (v := 4) dX12_isWord_113 (by decide) ?_
                refine px_iadd dX12_isWord_114 ?_
                refine mx_bald (j := 11) (k := 14) (a + 4) dX12_isWord_115 rfl (show nI a + nI 4 = nI (a + 4) from nI_add ..) (by omega) (by decide) ?_
                refine px_iload dX12_isWord_116 rfl ?_
                refine px_icmp_ne (tgt := 148) dX12_isWord_118 (by decide) (fun H118 => ?_) (fun H118 => ?_)
                · skip
                  rw [g14] at H118
                  refine px_iconst (v := 0) dX12_isWord_148 (by decide) ?_
                  refine px_iretZ dX12_isWord_149 rfl (by first | rfl | decide) ?_
                  exact ⟨by first | (simp [bI, isWb, *]; done) | (simp [bI, isWb, *]; omega), rfl⟩
                · skip
                  rw [g14] at H118
                  refine px_iload dX12_isWord_121 rfl ?_
                  refine px_bipush (v := 6) dX12_isWord_123 (by decide) ?_
                  refine px_icmp_lt (tgt := 144) dX12_isWord_125 (by decide) (fun H125 => ?_) (fun H125 => ?_)
                  · skip
                    rw [lw_6 hn] at H125
                    refine px_iconst (v := 1) dX12_isWord_144 (by decide) ?_
                    refine px_goto (tgt := 149) dX12_isWord_145 (by decide) ?_
                    refine px_iretZ dX12_isWord_149 rfl (by first | rfl | decide) ?_
                    exact ⟨by first | (simp [bI, isWb, *]; done) | (simp [bI, isWb, *]; omega), rfl⟩
                  · skip
                    rw [lw_6 hn] at H125
                    refine px_aload_n dX12_isWord_128 rfl rfl ?_
                    refine mx_getA (k := 14) (j := 11) dX12_isWord_129 gX12_44 (fun _ => rfl) ?_
                    refine px_aload_n dX12_isWord_132 rfl rfl ?_
                    refine mx_getI (k := 24) dX12_isWord_133 gX12_155 (fun _ => rfl) ?_
                    refine px_iconst (v := 5) dX12_isWord_136 (by decide) ?_
                    refine px_iadd dX12_isWord_137 ?_
                    refine mx_bald (j := 11) (k := 14) (a + 5) dX12_isWord_138 rfl (show nI a + nI 5 = nI (a + 5) from nI_add ..) (by omega) (by decide) ?_
                    refine px_iload dX12_isWord_139 rfl ?_
                    refine px_icmp_ne (tgt := 148) dX12_isWord_141 (by decide) (fun H141 => ?_) (fun H141 => ?_)
                    · skip
                      rw [g14] at H141
                      refine px_iconst (v := 0) dX12_isWord_148 (by decide) ?_
                      refine px_iretZ dX12_isWord_149 rfl (by first | rfl | decide) ?_
                      exact ⟨by first | (simp [bI, isWb, *]; done) | (simp [bI, isWb, *]; omega), rfl⟩
                    · skip
                      rw [g14] at H141
                      refine px_iconst (v := 1) dX12_isWord_144 (by decide) ?_
                      refine px_goto (tgt := 149) dX12_isWord_145 (by decide) ?_
                      refine px_iretZ dX12_isWord_149 rfl (by first | rfl | decide) ?_
                      exact ⟨by first | (simp [bI, isWb, *]; done) | (simp [bI, isWb, *]; omega), rfl⟩
            · skip
              rw [lw_4 hn] at H80
              refine px_aload_n dX12_isWord_83 rfl rfl ?_
              refine mx_getA (k := 14) (j := 11) dX12_isWord_84 gX12_44 (fun _ => rfl) ?_
              refine px_aload_n dX12_isWord_87 rfl rfl ?_
              refine mx_getI (k := 24) dX12_isWord_88 gX12_155 (fun _ => rfl) ?_
              refine px_iconst (v := 3) dX12_isWord_91 (by decide) ?_
              refine px_iadd dX12_isWord_92 ?_
              refine mx_bald (j := 11) (k := 14) (a + 3) dX12_isWord_93 rfl (show nI a + nI 3 = nI (a + 3) from nI_add ..) (by omega) (by decide) ?_
              refine px_iload dX12_isWord_94 rfl ?_
              refine px_icmp_ne (tgt := 148) dX12_isWord_96 (by decide) (fun H96 => ?_) (fun H96 => ?_)
              · skip
                rw [g14] at H96
                refine px_iconst (v := 0) dX12_isWord_148 (by decide) ?_
                refine px_iretZ dX12_isWord_149 rfl (by first | rfl | decide) ?_
                exact ⟨by first | (simp [bI, isWb, *]; done) | (simp [bI, isWb, *]; omega), rfl⟩
              · skip
                rw [g14] at H96
                refine px_iload dX12_isWord_99 rfl ?_
                refine px_iconst (v := 5) dX12_isWord_101 (by decide) ?_
                refine px_icmp_lt (tgt := 121) dX12_isWord_102 (by decide) (fun H102 => ?_) (fun H102 => ?_)
                · skip
                  rw [lw_5 hn] at H102
                  refine px_iload dX12_isWord_121 rfl ?_
                  refine px_bipush (v := 6) dX12_isWord_123 (by decide) ?_
                  refine px_icmp_lt (tgt := 144) dX12_isWord_125 (by decide) (fun H125 => ?_) (fun H125 => ?_)
                  · skip
                    rw [lw_6 hn] at H125
                    refine px_iconst (v := 1) dX12_isWord_144 (by decide) ?_
                    refine px_goto (tgt := 149) dX12_isWord_145 (by decide) ?_
                    refine px_iretZ dX12_isWord_149 rfl (by first | rfl | decide) ?_
                    exact ⟨by first | (simp [bI, isWb, *]; done) | (simp [bI, isWb, *]; omega), rfl⟩
                  · skip
                    rw [lw_6 hn] at H125
                    refine px_aload_n dX12_isWord_128 rfl rfl ?_
                    refine mx_getA (k := 14) (j := 11) dX12_isWord_129 gX12_44 (fun _ => rfl) ?_
                    refine px_aload_n dX12_isWord_132 rfl rfl ?_
                    refine mx_getI (k := 24) dX12_isWord_133 gX12_155 (fun _ => rfl) ?_
                    refine px_iconst (v := 5) dX12_isWord_136 (by decide) ?_
                    refine px_iadd dX12_isWord_137 ?_
                    refine mx_bald (j := 11) (k := 14) (a + 5) dX12_isWord_138 rfl (show nI a + nI 5 = nI (a + 5) from nI_add ..) (by omega) (by decide) ?_
                    refine px_iload dX12_isWord_139 rfl ?_
                    refine px_icmp_ne (tgt := 148) dX12_isWord_141 (by decide) (fun H141 => ?_) (fun H141 => ?_)
                    · skip
                      rw [g14] at H141
                      refine px_iconst (v := 0) dX12_isWord_148 (by decide) ?_
                      refine px_iretZ dX12_isWord_149 rfl (by first | rfl | decide) ?_
                      exact ⟨by first | (simp [bI, isWb, *]; done) | (simp [bI, isWb, *]; omega), rfl⟩
                    · skip
                      rw [g14] at H141
                      refine px_iconst (v := 1) dX12_isWord_144 (by decide) ?_
                      refine px_goto (tgt := 149) dX12_isWord_145 (by decide) ?_
                      refine px_iretZ dX12_isWord_149 rfl (by first | rfl | decide) ?_
                      exact ⟨by first | (simp [bI, isWb, *]; done) | (simp [bI, isWb, *]; omega), rfl⟩
                · skip
                  rw [lw_5 hn] at H102
                  refine px_aload_n dX12_isWord_105 rfl rfl ?_
                  refine mx_getA (k := 14) (j := 11) dX12_isWord_106 gX12_44 (fun _ => rfl) ?_
                  refine px_aload_n dX12_isWord_109 rfl rfl ?_
                  refine mx_getI (k := 24) dX12_isWord_110 gX12_155 (fun _ => rfl) ?_
                  refine px_iconst (v := 4) dX12_isWord_113 (by decide) ?_
                  refine px_iadd dX12_isWord_114 ?_
                  refine mx_bald (j := 11) (k := 14) (a + 4) dX12_isWord_115 rfl (show nI a + nI 4 = nI (a + 4) from nI_add ..) (by omega) (by decide) ?_
                  refine px_iload dX12_isWord_116 rfl ?_
                  refine px_icmp_ne (tgt := 148) dX12_isWord_118 (by decide) (fun H118 => ?_) (fun H118 => ?_)
                  · skip
                    rw [g14] at H118
                    refine px_iconst (v := 0) dX12_isWord_148 (by decide) ?_
                    refine px_iretZ dX12_isWord_149 rfl (by first | rfl | decide) ?_
                    exact ⟨by first | (simp [bI, isWb, *]; done) | (simp [bI, isWb, *]; omega), rfl⟩
                  · skip
                    rw [g14] at H118
                    refine px_iload dX12_isWord_121 rfl ?_
                    refine px_bipush (v := 6) dX12_isWord_123 (by decide) ?_
                    refine px_icmp_lt (tgt := 144) dX12_isWord_125 (by decide) (fun H125 => ?_) (fun H125 => ?_)
                    · skip
                      rw [lw_6 hn] at H125
                      refine px_iconst (v := 1) dX12_isWord_144 (by decide) ?_
                      refine px_goto (tgt := 149) dX12_isWord_145 (by decide) ?_
                      refine px_iretZ dX12_isWord_149 rfl (by first | rfl | decide) ?_
                      exact ⟨by first | (simp [bI, isWb, *]; done) | (simp [bI, isWb, *]; omega), rfl⟩
                    · skip
                      rw [lw_6 hn] at H125
                      refine px_aload_n dX12_isWord_128 rfl rfl ?_
                      refine mx_getA (k := 14) (j := 11) dX12_isWord_129 gX12_44 (fun _ => rfl) ?_
                      refine px_aload_n dX12_isWord_132 rfl rfl ?_
                      refine mx_getI (k := 24) dX12_isWord_133 gX12_155 (fun _ => rfl) ?_
                      refine px_iconst (v := 5) dX12_isWord_136 (by decide) ?_
                      refine px_iadd dX12_isWord_137 ?_
                      refine mx_bald (j := 11) (k := 14) (a + 5) dX12_isWord_138 rfl (show nI a + nI 5 = nI (a + 5) from nI_add ..) (by omega) (by decide) ?_
                      refine px_iload dX12_isWord_139 rfl ?_
                      refine px_icmp_ne (tgt := 148) dX12_isWord_141 (by decide) (fun H141 => ?_) (fun H141 => ?_)
                      · skip
                        rw [g14] at H141
                        refine px_iconst (v := 0) dX12_isWord_148 (by decide) ?_
                        refine px_iretZ dX12_isWord_149 rfl (by first | rfl | decide) ?_
                        exact ⟨by first | (simp [bI, isWb, *]; done) | (simp [bI, isWb, *]; omega), rfl⟩
                      · skip
                        rw [g14] at H141
                        refine px_iconst (v := 1) dX12_isWord_144 (by decide) ?_
                        refine px_goto (tgt := 149) dX12_isWord_145 (by decide) ?_
                        refine px_iretZ dX12_isWord_149 rfl (by first | rfl | decide) ?_
                        exact ⟨by first | (simp [bI, isWb, *]; done) | (simp [bI, isWb, *]; omega), rfl⟩
      · skip
        rw [lw_2 hn] at H38
        refine px_aload_n dX12_isWord_41 rfl rfl ?_
        refine mx_getA (k := 14) (j := 11) dX12_isWord_42 gX12_44 (fun _ => rfl) ?_
        refine px_aload_n dX12_isWord_45 rfl rfl ?_
        refine mx_getI (k := 24) dX12_isWord_46 gX12_155 (fun _ => rfl) ?_
        refine px_iconst (v := 1) dX12_isWord_49 (by decide) ?_
        refine px_iadd dX12_isWord_50 ?_
        refine mx_bald (j := 11) (k := 14) (a + 1) dX12_isWord_51 rfl (show nI a + nI 1 = nI (a + 1) from nI_add ..) (by omega) (by decide) ?_
        refine px_iload_n dX12_isWord_52 rfl rfl ?_
        refine px_icmp_ne (tgt := 148) dX12_isWord_53 (by decide) (fun H53 => ?_) (fun H53 => ?_)
        · skip
          rw [g14] at H53
          refine px_iconst (v := 0) dX12_isWord_148 (by decide) ?_
          refine px_iretZ dX12_isWord_149 rfl (by first | rfl | decide) ?_
          exact ⟨by first | (simp [bI, isWb, *]; done) | (simp [bI, isWb, *]; omega), rfl⟩
        · skip
          rw [g14] at H53
          refine px_iload dX12_isWord_56 rfl ?_
          refine px_iconst (v := 3) dX12_isWord_58 (by decide) ?_
          refine px_icmp_lt (tgt := 77) dX12_isWord_59 (by decide) (fun H59 => ?_) (fun H59 => ?_)
          · skip
            rw [lw_3 hn] at H59
            refine px_iload dX12_isWord_77 rfl ?_
            refine px_iconst (v := 4) dX12_isWord_79 (by decide) ?_
            refine px_icmp_lt (tgt := 99) dX12_isWord_80 (by decide) (fun H80 => ?_) (fun H80 => ?_)
            · skip
              rw [lw_4 hn] at H80
              refine px_iload dX12_isWord_99 rfl ?_
              refine px_iconst (v := 5) dX12_isWord_101 (by decide) ?_
              refine px_icmp_lt (tgt := 121) dX12_isWord_102 (by decide) (fun H102 => ?_) (fun H102 => ?_)
              · skip
                rw [lw_5 hn] at H102
                refine px_iload dX12_isWord_121 rfl ?_
                refine px_bipush (v := 6) dX12_isWord_123 (by decide) ?_
                refine px_icmp_lt (tgt := 144) dX12_isWord_125 (by decide) (fun H125 => ?_) (fun H125 => ?_)
                · skip
                  rw [lw_6 hn] at H125
                  refine px_iconst (v := 1) dX12_isWord_144 (by decide) ?_
                  refine px_goto (tgt := 149) dX12_isWord_145 (by decide) ?_
                  refine px_iretZ dX12_isWord_149 rfl (by first | rfl | decide) ?_
                  exact ⟨by first | (simp [bI, isWb, *]; done) | (simp [bI, isWb, *]; omega), rfl⟩
                · skip
                  rw [lw_6 hn] at H125
                  refine px_aload_n dX12_isWord_128 rfl rfl ?_
                  refine mx_getA (k := 14) (j := 11) dX12_isWord_129 gX12_44 (fun _ => rfl) ?_
                  refine px_aload_n dX12_isWord_132 rfl rfl ?_
                  refine mx_getI (k := 24) dX12_isWord_133 gX12_155 (fun _ => rfl) ?_
                  refine px_iconst (v := 5) dX12_isWord_136 (by decide) ?_
                  refine px_iadd dX12_isWord_137 ?_
                  refine mx_bald (j := 11) (k := 14) (a + 5) dX12_isWord_138 rfl (show nI a + nI 5 = nI (a + 5) from nI_add ..) (by omega) (by decide) ?_
                  refine px_iload dX12_isWord_139 rfl ?_
                  refine px_icmp_ne (tgt := 148) dX12_isWord_141 (by decide) (fun H141 => ?_) (fun H141 => ?_)
                  · skip
                    rw [g14] at H141
                    refine px_iconst (v := 0) dX12_isWord_148 (by decide) ?_
                    refine px_iretZ dX12_isWord_149 rfl (by first | rfl | decide) ?_
                    exact ⟨by first | (simp [bI, isWb, *]; done) | (simp [bI, isWb, *]; omega), rfl⟩
                  · skip
                    rw [g14] at H141
                    refine px_iconst (v := 1) dX12_isWord_144 (by decide) ?_
                    refine px_goto (tgt := 149) dX12_isWord_145 (by decide) ?_
                    refine px_iretZ dX12_isWord_149 rfl (by first | rfl | decide) ?_
                    exact ⟨by first | (simp [bI, isWb, *]; done) | (simp [bI, isWb, *]; omega), rfl⟩
              · skip
                rw [lw_5 hn] at H102
                refine px_aload_n dX12_isWord_105 rfl rfl ?_
                refine mx_getA (k := 14) (j := 11) dX12_isWord_106 gX12_44 (fun _ => rfl) ?_
                refine px_aload_n dX12_isWord_109 rfl rfl ?_
                refine mx_getI (k := 24) dX12_isWord_110 gX12_155 (fun _ => rfl) ?_
                refine px_iconst (v := 4) dX12_isWord_113 (by decide) ?_
                refine px_iadd dX12_isWord_114 ?_
                refine mx_bald (j := 11) (k := 14) (a + 4) dX12_isWord_115 rfl (show nI a + nI 4 = nI (a + 4) from nI_add ..) (by omega) (by decide) ?_
                refine px_iload dX12_isWord_116 rfl ?_
                refine px_icmp_ne (tgt := 148) dX12_isWord_118 (by decide) (fun H118 => ?_) (fun H118 => ?_)
                · skip
                  rw [g14] at H118
                  refine px_iconst (v := 0) dX12_isWord_148 (by decide) ?_
                  refine px_iretZ dX12_isWord_149 rfl (by first | rfl | decide) ?_
                  exact ⟨by first | (simp [bI, isWb, *]; done) | (simp [bI, isWb, *]; omega), rfl⟩
                · skip
                  rw [g14] at H118
                  refine px_iload dX12_isWord_121 rfl ?_
                  refine px_bipush (v := 6) dX12_isWord_123 (by decide) ?_
                  refine px_icmp_lt (tgt := 144) dX12_isWord_125 (by decide) (fun H125 => ?_) (fun H125 => ?_)
                  · skip
                    rw [lw_6 hn] at H125
                    refine px_iconst (v := 1) dX12_isWord_144 (by decide) ?_
                    refine px_goto (tgt := 149) dX12_isWord_145 (by decide) ?_
                    refine px_iretZ dX12_isWord_149 rfl (by first | rfl | decide) ?_
                    exact ⟨by first | (simp [bI, isWb, *]; done) | (simp [bI, isWb, *]; omega), rfl⟩
                  · skip
                    rw [lw_6 hn] at H125
                    refine px_aload_n dX12_isWord_128 rfl rfl ?_
                    refine mx_getA (k := 14) (j := 11) dX12_isWord_129 gX12_44 (fun _ => rfl) ?_
                    refine px_aload_n dX12_isWord_132 rfl rfl ?_
                    refine mx_getI (k := 24) dX12_isWord_133 gX12_155 (fun _ => rfl) ?_
                    refine px_iconst (v := 5) dX12_isWord_136 (by decide) ?_
                    refine px_iadd dX12_isWord_137 ?_
                    refine mx_bald (j := 11) (k := 14) (a + 5) dX12_isWord_138 rfl (show nI a + nI 5 = nI (a + 5) from nI_add ..) (by omega) (by decide) ?_
                    refine px_iload dX12_isWord_139 rfl ?_
                    refine px_icmp_ne (tgt := 148) dX12_isWord_141 (by decide) (fun H141 => ?_) (fun H141 => ?_)
                    · skip
                      rw [g14] at H141
                      refine px_iconst (v := 0) dX12_isWord_148 (by decide) ?_
                      refine px_iretZ dX12_isWord_149 rfl (by first | rfl | decide) ?_
                      exact ⟨by first | (simp [bI, isWb, *]; done) | (simp [bI, isWb, *]; omega), rfl⟩
                    · skip
                      rw [g14] at H141
                      refine px_iconst (v := 1) dX12_isWord_144 (by decide) ?_
                      refine px_goto (tgt := 149) dX12_isWord_145 (by decide) ?_
                      refine px_iretZ dX12_isWord_149 rfl (by first | rfl | decide) ?_
                      exact ⟨by first | (simp [bI, isWb, *]; done) | (simp [bI, isWb, *]; omega), rfl⟩
            · skip
              rw [lw_4 hn] at H80
              refine px_aload_n dX12_isWord_83 rfl rfl ?_
              refine mx_getA (k := 14) (j := 11) dX12_isWord_84 gX12_44 (fun _ => rfl) ?_
              refine px_aload_n dX12_isWord_87 rfl rfl ?_
              refine mx_getI (k := 24) dX12_isWord_88 gX12_155 (fun _ => rfl) ?_
              refine px_iconst (v := 3) dX12_isWord_91 (by decide) ?_
              refine px_iadd dX12_isWord_92 ?_
              refine mx_bald (j := 11) (k := 14) (a + 3) dX12_isWord_93 rfl (show nI a + nI 3 = nI (a + 3) from nI_add ..) (by omega) (by decide) ?_
              refine px_iload dX12_isWord_94 rfl ?_
              refine px_icmp_ne (tgt := 148) dX12_isWord_96 (by decide) (fun H96 => ?_) (fun H96 => ?_)
              · skip
                rw [g14] at H96
                refine px_iconst (v := 0) dX12_isWord_148 (by decide) ?_
                refine px_iretZ dX12_isWord_149 rfl (by first | rfl | decide) ?_
                exact ⟨by first | (simp [bI, isWb, *]; done) | (simp [bI, isWb, *]; omega), rfl⟩
              · skip
                rw [g14] at H96
                refine px_iload dX12_isWord_99 rfl ?_
                refine px_iconst (v := 5) dX12_isWord_101 (by decide) ?_
                refine px_icmp_lt (tgt := 121) dX12_isWord_102 (by decide) (fun H102 => ?_) (fun H102 => ?_)
                · skip
                  rw [lw_5 hn] at H102
                  refine px_iload dX12_isWord_121 rfl ?_
                  refine px_bipush (v := 6) dX12_isWord_123 (by decide) ?_
                  refine px_icmp_lt (tgt := 144) dX12_isWord_125 (by decide) (fun H125 => ?_) (fun H125 => ?_)
                  · skip
                    rw [lw_6 hn] at H125
                    refine px_iconst (v := 1) dX12_isWord_144 (by decide) ?_
                    refine px_goto (tgt := 149) dX12_isWord_145 (by decide) ?_
                    refine px_iretZ dX12_isWord_149 rfl (by first | rfl | decide) ?_
                    exact ⟨by first | (simp [bI, isWb, *]; done) | (simp [bI, isWb, *]; omega), rfl⟩
                  · skip
                    rw [lw_6 hn] at H125
                    refine px_aload_n dX12_isWord_128 rfl rfl ?_
                    refine mx_getA (k := 14) (j := 11) dX12_isWord_129 gX12_44 (fun _ => rfl) ?_
                    refine px_aload_n dX12_isWord_132 rfl rfl ?_
                    refine mx_getI (k := 24) dX12_isWord_133 gX12_155 (fun _ => rfl) ?_
                    refine px_iconst (v := 5) dX12_isWord_136 (by decide) ?_
                    refine px_iadd dX12_isWord_137 ?_
                    refine mx_bald (j := 11) (k := 14) (a + 5) dX12_isWord_138 rfl (show nI a + nI 5 = nI (a + 5) from nI_add ..) (by omega) (by decide) ?_
                    refine px_iload dX12_isWord_139 rfl ?_
                    refine px_icmp_ne (tgt := 148) dX12_isWord_141 (by decide) (fun H141 => ?_) (fun H141 => ?_)
                    · skip
                      rw [g14] at H141
                      refine px_iconst (v := 0) dX12_isWord_148 (by decide) ?_
                      refine px_iretZ dX12_isWord_149 rfl (by first | rfl | decide) ?_
                      exact ⟨by first | (simp [bI, isWb, *]; done) | (simp [bI, isWb, *]; omega), rfl⟩
                    · skip
                      rw [g14] at H141
                      refine px_iconst (v := 1) dX12_isWord_144 (by decide) ?_
                      refine px_goto (tgt := 149) dX12_isWord_145 (by decide) ?_
                      refine px_iretZ dX12_isWord_149 rfl (by first | rfl | decide) ?_
                      exact ⟨by first | (simp [bI, isWb, *]; done) | (simp [bI, isWb, *]; omega), rfl⟩
                · skip
                  rw [lw_5 hn] at H102
                  refine px_aload_n dX12_isWord_105 rfl rfl ?_
                  refine mx_getA (k := 14) (j := 11) dX12_isWord_106 gX12_44 (fun _ => rfl) ?_
                  refine px_aload_n dX12_isWord_109 rfl rfl ?_
                  refine mx_getI (k := 24) dX12_isWord_110 gX12_155 (fun _ => rfl) ?_
                  refine px_iconst (v := 4) dX12_isWord_113 (by decide) ?_
                  refine px_iadd dX12_isWord_114 ?_
                  refine mx_bald (j := 11) (k := 14) (a + 4) dX12_isWord_115 rfl (show nI a + nI 4 = nI (a + 4) from nI_add ..) (by omega) (by decide) ?_
                  refine px_iload dX12_isWord_116 rfl ?_
                  refine px_icmp_ne (tgt := 148) dX12_isWord_118 (by decide) (fun H118 => ?_) (fun H118 => ?_)
                  · skip
                    rw [g14] at H118
                    refine px_iconst (v := 0) dX12_isWord_148 (by decide) ?_
                    refine px_iretZ dX12_isWord_149 rfl (by first | rfl | decide) ?_
                    exact ⟨by first | (simp [bI, isWb, *]; done) | (simp [bI, isWb, *]; omega), rfl⟩
                  · skip
                    rw [g14] at H118
                    refine px_iload dX12_isWord_121 rfl ?_
                    refine px_bipush (v := 6) dX12_isWord_123 (by decide) ?_
                    refine px_icmp_lt (tgt := 144) dX12_isWord_125 (by decide) (fun H125 => ?_) (fun H125 => ?_)
                    · skip
                      rw [lw_6 hn] at H125
                      refine px_iconst (v := 1) dX12_isWord_144 (by decide) ?_
                      refine px_goto (tgt := 149) dX12_isWord_145 (by decide) ?_
                      refine px_iretZ dX12_isWord_149 rfl (by first | rfl | decide) ?_
                      exact ⟨by first | (simp [bI, isWb, *]; done) | (simp [bI, isWb, *]; omega), rfl⟩
                    · skip
                      rw [lw_6 hn] at H125
                      refine px_aload_n dX12_isWord_128 rfl rfl ?_
                      refine mx_getA (k := 14) (j := 11) dX12_isWord_129 gX12_44 (fun _ => rfl) ?_
                      refine px_aload_n dX12_isWord_132 rfl rfl ?_
                      refine mx_getI (k := 24) dX12_isWord_133 gX12_155 (fun _ => rfl) ?_
                      refine px_iconst (v := 5) dX12_isWord_136 (by decide) ?_
                      refine px_iadd dX12_isWord_137 ?_
                      refine mx_bald (j := 11) (k := 14) (a + 5) dX12_isWord_138 rfl (show nI a + nI 5 = nI (a + 5) from nI_add ..) (by omega) (by decide) ?_
                      refine px_iload dX12_isWord_139 rfl ?_
                      refine px_icmp_ne (tgt := 148) dX12_isWord_141 (by decide) (fun H141 => ?_) (fun H141 => ?_)
                      · skip
                        rw [g14] at H141
                        refine px_iconst (v := 0) dX12_isWord_148 (by decide) ?_
                        refine px_iretZ dX12_isWord_149 rfl (by first | rfl | decide) ?_
                        exact ⟨by first | (simp [bI, isWb, *]; done) | (simp [bI, isWb, *]; omega), rfl⟩
                      · skip
                        rw [g14] at H141
                        refine px_iconst (v := 1) dX12_isWord_144 (by decide) ?_
                        refine px_goto (tgt := 149) dX12_isWord_145 (by decide) ?_
                        refine px_iretZ dX12_isWord_149 rfl (by first | rfl | decide) ?_
                        exact ⟨by first | (simp [bI, isWb, *]; done) | (simp [bI, isWb, *]; omega), rfl⟩
          · skip
            rw [lw_3 hn] at H59
            refine px_aload_n dX12_isWord_62 rfl rfl ?_
            refine mx_getA (k := 14) (j := 11) dX12_isWord_63 gX12_44 (fun _ => rfl) ?_
            refine px_aload_n dX12_isWord_66 rfl rfl ?_
            refine mx_getI (k := 24) dX12_isWord_67 gX12_155 (fun _ => rfl) ?_
            refine px_iconst (v := 2) dX12_isWord_70 (by decide) ?_
            refine px_iadd dX12_isWord_71 ?_
            refine mx_bald (j := 11) (k := 14) (a + 2) dX12_isWord_72 rfl (show nI a + nI 2 = nI (a + 2) from nI_add ..) (by omega) (by decide) ?_
            refine px_iload_n dX12_isWord_73 rfl rfl ?_
            refine px_icmp_ne (tgt := 148) dX12_isWord_74 (by decide) (fun H74 => ?_) (fun H74 => ?_)
            · skip
              rw [g14] at H74
              refine px_iconst (v := 0) dX12_isWord_148 (by decide) ?_
              refine px_iretZ dX12_isWord_149 rfl (by first | rfl | decide) ?_
              exact ⟨by first | (simp [bI, isWb, *]; done) | (simp [bI, isWb, *]; omega), rfl⟩
            · skip
              rw [g14] at H74
              refine px_iload dX12_isWord_77 rfl ?_
              refine px_iconst (v := 4) dX12_isWord_79 (by decide) ?_
              refine px_icmp_lt (tgt := 99) dX12_isWord_80 (by decide) (fun H80 => ?_) (fun H80 => ?_)
              · skip
                rw [lw_4 hn] at H80
                refine px_iload dX12_isWord_99 rfl ?_
                refine px_iconst (v := 5) dX12_isWord_101 (by decide) ?_
                refine px_icmp_lt (tgt := 121) dX12_isWord_102 (by decide) (fun H102 => ?_) (fun H102 => ?_)
                · skip
                  rw [lw_5 hn] at H102
                  refine px_iload dX12_isWord_121 rfl ?_
                  refine px_bipush (v := 6) dX12_isWord_123 (by decide) ?_
                  refine px_icmp_lt (tgt := 144) dX12_isWord_125 (by decide) (fun H125 => ?_) (fun H125 => ?_)
                  · skip
                    rw [lw_6 hn] at H125
                    refine px_iconst (v := 1) dX12_isWord_144 (by decide) ?_
                    refine px_goto (tgt := 149) dX12_isWord_145 (by decide) ?_
                    refine px_iretZ dX12_isWord_149 rfl (by first | rfl | decide) ?_
                    exact ⟨by first | (simp [bI, isWb, *]; done) | (simp [bI, isWb, *]; omega), rfl⟩
                  · skip
                    rw [lw_6 hn] at H125
                    refine px_aload_n dX12_isWord_128 rfl rfl ?_
                    refine mx_getA (k := 14) (j := 11) dX12_isWord_129 gX12_44 (fun _ => rfl) ?_
                    refine px_aload_n dX12_isWord_132 rfl rfl ?_
                    refine mx_getI (k := 24) dX12_isWord_133 gX12_155 (fun _ => rfl) ?_
                    refine px_iconst (v := 5) dX12_isWord_136 (by decide) ?_
                    refine px_iadd dX12_isWord_137 ?_
                    refine mx_bald (j := 11) (k := 14) (a + 5) dX12_isWord_138 rfl (show nI a + nI 5 = nI (a + 5) from nI_add ..) (by omega) (by decide) ?_
                    refine px_iload dX12_isWord_139 rfl ?_
                    refine px_icmp_ne (tgt := 148) dX12_isWord_141 (by decide) (fun H141 => ?_) (fun H141 => ?_)
                    · skip
                      rw [g14] at H141
                      refine px_iconst (v := 0) dX12_isWord_148 (by decide) ?_
                      refine px_iretZ dX12_isWord_149 rfl (by first | rfl | decide) ?_
                      exact ⟨by first | (simp [bI, isWb, *]; done) | (simp [bI, isWb, *]; omega), rfl⟩
                    · skip
                      rw [g14] at H141
                      refine px_iconst (v := 1) dX12_isWord_144 (by decide) ?_
                      refine px_goto (tgt := 149) dX12_isWord_145 (by decide) ?_
                      refine px_iretZ dX12_isWord_149 rfl (by first | rfl | decide) ?_
                      exact ⟨by first | (simp [bI, isWb, *]; done) | (simp [bI, isWb, *]; omega), rfl⟩
                · skip
                  rw [lw_5 hn] at H102
                  refine px_aload_n dX12_isWord_105 rfl rfl ?_
                  refine mx_getA (k := 14) (j := 11) dX12_isWord_106 gX12_44 (fun _ => rfl) ?_
                  refine px_aload_n dX12_isWord_109 rfl rfl ?_
                  refine mx_getI (k := 24) dX12_isWord_110 gX12_155 (fun _ => rfl) ?_
                  refine px_iconst (v := 4) dX12_isWord_113 (by decide) ?_
                  refine px_iadd dX12_isWord_114 ?_
                  refine mx_bald (j := 11) (k := 14) (a + 4) dX12_isWord_115 rfl (show nI a + nI 4 = nI (a + 4) from nI_add ..) (by omega) (by decide) ?_
                  refine px_iload dX12_isWord_116 rfl ?_
                  refine px_icmp_ne (tgt := 148) dX12_isWord_118 (by decide) (fun H118 => ?_) (fun H118 => ?_)
                  · skip
                    rw [g14] at H118
                    refine px_iconst (v := 0) dX12_isWord_148 (by decide) ?_
                    refine px_iretZ dX12_isWord_149 rfl (by first | rfl | decide) ?_
                    exact ⟨by first | (simp [bI, isWb, *]; done) | (simp [bI, isWb, *]; omega), rfl⟩
                  · skip
                    rw [g14] at H118
                    refine px_iload dX12_isWord_121 rfl ?_
                    refine px_bipush (v := 6) dX12_isWord_123 (by decide) ?_
                    refine px_icmp_lt (tgt := 144) dX12_isWord_125 (by decide) (fun H125 => ?_) (fun H125 => ?_)
                    · skip
                      rw [lw_6 hn] at H125
                      refine px_iconst (v := 1) dX12_isWord_144 (by decide) ?_
                      refine px_goto (tgt := 149) dX12_isWord_145 (by decide) ?_
                      refine px_iretZ dX12_isWord_149 rfl (by first | rfl | decide) ?_
                      exact ⟨by first | (simp [bI, isWb, *]; done) | (simp [bI, isWb, *]; omega), rfl⟩
                    · skip
                      rw [lw_6 hn] at H125
                      refine px_aload_n dX12_isWord_128 rfl rfl ?_
                      refine mx_getA (k := 14) (j := 11) dX12_isWord_129 gX12_44 (fun _ => rfl) ?_
                      refine px_aload_n dX12_isWord_132 rfl rfl ?_
                      refine mx_getI (k := 24) dX12_isWord_133 gX12_155 (fun _ => rfl) ?_
                      refine px_iconst (v := 5) dX12_isWord_136 (by decide) ?_
                      refine px_iadd dX12_isWord_137 ?_
                      refine mx_bald (j := 11) (k := 14) (a + 5) dX12_isWord_138 rfl (show nI a + nI 5 = nI (a + 5) from nI_add ..) (by omega) (by decide) ?_
                      refine px_iload dX12_isWord_139 rfl ?_
                      refine px_icmp_ne (tgt := 148) dX12_isWord_141 (by decide) (fun H141 => ?_) (fun H141 => ?_)
                      · skip
                        rw [g14] at H141
                        refine px_iconst (v := 0) dX12_isWord_148 (by decide) ?_
                        refine px_iretZ dX12_isWord_149 rfl (by first | rfl | decide) ?_
                        exact ⟨by first | (simp [bI, isWb, *]; done) | (simp [bI, isWb, *]; omega), rfl⟩
                      · skip
                        rw [g14] at H141
                        refine px_iconst (v := 1) dX12_isWord_144 (by decide) ?_
                        refine px_goto (tgt := 149) dX12_isWord_145 (by decide) ?_
                        refine px_iretZ dX12_isWord_149 rfl (by first | rfl | decide) ?_
                        exact ⟨by first | (simp [bI, isWb, *]; done) | (simp [bI, isWb, *]; omega), rfl⟩
              · skip
                rw [lw_4 hn] at H80
                refine px_aload_n dX12_isWord_83 rfl rfl ?_
                refine mx_getA (k := 14) (j := 11) dX12_isWord_84 gX12_44 (fun _ => rfl) ?_
                refine px_aload_n dX12_isWord_87 rfl rfl ?_
                refine mx_getI (k := 24) dX12_isWord_88 gX12_155 (fun _ => rfl) ?_
                refine px_iconst (v := 3) dX12_isWord_91 (by decide) ?_
                refine px_iadd dX12_isWord_92 ?_
                refine mx_bald (j := 11) (k := 14) (a + 3) dX12_isWord_93 rfl (show nI a + nI 3 = nI (a + 3) from nI_add ..) (by omega) (by decide) ?_
                refine px_iload dX12_isWord_94 rfl ?_
                refine px_icmp_ne (tgt := 148) dX12_isWord_96 (by decide) (fun H96 => ?_) (fun H96 => ?_)
                · skip
                  rw [g14] at H96
                  refine px_iconst (v := 0) dX12_isWord_148 (by decide) ?_
                  refine px_iretZ dX12_isWord_149 rfl (by first | rfl | decide) ?_
                  exact ⟨by first | (simp [bI, isWb, *]; done) | (simp [bI, isWb, *]; omega), rfl⟩
                · skip
                  rw [g14] at H96
                  refine px_iload dX12_isWord_99 rfl ?_
                  refine px_iconst (v := 5) dX12_isWord_101 (by decide) ?_
                  refine px_icmp_lt (tgt := 121) dX12_isWord_102 (by decide) (fun H102 => ?_) (fun H102 => ?_)
                  · skip
                    rw [lw_5 hn] at H102
                    refine px_iload dX12_isWord_121 rfl ?_
                    refine px_bipush (v := 6) dX12_isWord_123 (by decide) ?_
                    refine px_icmp_lt (tgt := 144) dX12_isWord_125 (by decide) (fun H125 => ?_) (fun H125 => ?_)
                    · skip
                      rw [lw_6 hn] at H125
                      refine px_iconst (v := 1) dX12_isWord_144 (by decide) ?_
                      refine px_goto (tgt := 149) dX12_isWord_145 (by decide) ?_
                      refine px_iretZ dX12_isWord_149 rfl (by first | rfl | decide) ?_
                      exact ⟨by first | (simp [bI, isWb, *]; done) | (simp [bI, isWb, *]; omega), rfl⟩
                    · skip
                      rw [lw_6 hn] at H125
                      refine px_aload_n dX12_isWord_128 rfl rfl ?_
                      refine mx_getA (k := 14) (j := 11) dX12_isWord_129 gX12_44 (fun _ => rfl) ?_
                      refine px_aload_n dX12_isWord_132 rfl rfl ?_
                      refine mx_getI (k := 24) dX12_isWord_133 gX12_155 (fun _ => rfl) ?_
                      refine px_iconst (v := 5) dX12_isWord_136 (by decide) ?_
                      refine px_iadd dX12_isWord_137 ?_
                      refine mx_bald (j := 11) (k := 14) (a + 5) dX12_isWord_138 rfl (show nI a + nI 5 = nI (a + 5) from nI_add ..) (by omega) (by decide) ?_
                      refine px_iload dX12_isWord_139 rfl ?_
                      refine px_icmp_ne (tgt := 148) dX12_isWord_141 (by decide) (fun H141 => ?_) (fun H141 => ?_)
                      · skip
                        rw [g14] at H141
                        refine px_iconst (v := 0) dX12_isWord_148 (by decide) ?_
                        refine px_iretZ dX12_isWord_149 rfl (by first | rfl | decide) ?_
                        exact ⟨by first | (simp [bI, isWb, *]; done) | (simp [bI, isWb, *]; omega), rfl⟩
                      · skip
                        rw [g14] at H141
                        refine px_iconst (v := 1) dX12_isWord_144 (by decide) ?_
                        refine px_goto (tgt := 149) dX12_isWord_145 (by decide) ?_
                        refine px_iretZ dX12_isWord_149 rfl (by first | rfl | decide) ?_
                        exact ⟨by first | (simp [bI, isWb, *]; done) | (simp [bI, isWb, *]; omega), rfl⟩
                  · skip
                    rw [lw_5 hn] at H102
                    refine px_aload_n dX12_isWord_105 rfl rfl ?_
                    refine mx_getA (k := 14) (j := 11) dX12_isWord_106 gX12_44 (fun _ => rfl) ?_
                    refine px_aload_n dX12_isWord_109 rfl rfl ?_
                    refine mx_getI (k := 24) dX12_isWord_110 gX12_155 (fun _ => rfl) ?_
                    refine px_iconst (v := 4) dX12_isWord_113 (by decide) ?_
                    refine px_iadd dX12_isWord_114 ?_
                    refine mx_bald (j := 11) (k := 14) (a + 4) dX12_isWord_115 rfl (show nI a + nI 4 = nI (a + 4) from nI_add ..) (by omega) (by decide) ?_
                    refine px_iload dX12_isWord_116 rfl ?_
                    refine px_icmp_ne (tgt := 148) dX12_isWord_118 (by decide) (fun H118 => ?_) (fun H118 => ?_)
                    · skip
                      rw [g14] at H118
                      refine px_iconst (v := 0) dX12_isWord_148 (by decide) ?_
                      refine px_iretZ dX12_isWord_149 rfl (by first | rfl | decide) ?_
                      exact ⟨by first | (simp [bI, isWb, *]; done) | (simp [bI, isWb, *]; omega), rfl⟩
                    · skip
                      rw [g14] at H118
                      refine px_iload dX12_isWord_121 rfl ?_
                      refine px_bipush (v := 6) dX12_isWord_123 (by decide) ?_
                      refine px_icmp_lt (tgt := 144) dX12_isWord_125 (by decide) (fun H125 => ?_) (fun H125 => ?_)
                      · skip
                        rw [lw_6 hn] at H125
                        refine px_iconst (v := 1) dX12_isWord_144 (by decide) ?_
                        refine px_goto (tgt := 149) dX12_isWord_145 (by decide) ?_
                        refine px_iretZ dX12_isWord_149 rfl (by first | rfl | decide) ?_
                        exact ⟨by first | (simp [bI, isWb, *]; done) | (simp [bI, isWb, *]; omega), rfl⟩
                      · skip
                        rw [lw_6 hn] at H125
                        refine px_aload_n dX12_isWord_128 rfl rfl ?_
                        refine mx_getA (k := 14) (j := 11) dX12_isWord_129 gX12_44 (fun _ => rfl) ?_
                        refine px_aload_n dX12_isWord_132 rfl rfl ?_
                        refine mx_getI (k := 24) dX12_isWord_133 gX12_155 (fun _ => rfl) ?_
                        refine px_iconst (v := 5) dX12_isWord_136 (by decide) ?_
                        refine px_iadd dX12_isWord_137 ?_
                        refine mx_bald (j := 11) (k := 14) (a + 5) dX12_isWord_138 rfl (show nI a + nI 5 = nI (a + 5) from nI_add ..) (by omega) (by decide) ?_
                        refine px_iload dX12_isWord_139 rfl ?_
                        refine px_icmp_ne (tgt := 148) dX12_isWord_141 (by decide) (fun H141 => ?_) (fun H141 => ?_)
                        · skip
                          rw [g14] at H141
                          refine px_iconst (v := 0) dX12_isWord_148 (by decide) ?_
                          refine px_iretZ dX12_isWord_149 rfl (by first | rfl | decide) ?_
                          exact ⟨by first | (simp [bI, isWb, *]; done) | (simp [bI, isWb, *]; omega), rfl⟩
                        · skip
                          rw [g14] at H141
                          refine px_iconst (v := 1) dX12_isWord_144 (by decide) ?_
                          refine px_goto (tgt := 149) dX12_isWord_145 (by decide) ?_
                          refine px_iretZ dX12_isWord_149 rfl (by first | rfl | decide) ?_
                          exact ⟨by first | (simp [bI, isWb, *]; done) | (simp [bI, isWb, *]; omega), rfl⟩
    · skip
      rw [lw_1 hn] at H19
      refine px_aload_n dX12_isWord_22 rfl rfl ?_
      refine mx_getA (k := 14) (j := 11) dX12_isWord_23 gX12_44 (fun _ => rfl) ?_
      refine px_aload_n dX12_isWord_26 rfl rfl ?_
      refine mx_getI (k := 24) dX12_isWord_27 gX12_155 (fun _ => rfl) ?_
      refine mx_bald (j := 11) (k := 14) (a) dX12_isWord_30 rfl rfl (by omega) (by decide) ?_
      refine px_iload_n dX12_isWord_31 rfl rfl ?_
      refine px_icmp_ne (tgt := 148) dX12_isWord_32 (by decide) (fun H32 => ?_) (fun H32 => ?_)
      · skip
        rw [g14] at H32
        refine px_iconst (v := 0) dX12_isWord_148 (by decide) ?_
        refine px_iretZ dX12_isWord_149 rfl (by first | rfl | decide) ?_
        exact ⟨by first | (simp [bI, isWb, *]; done) | (simp [bI, isWb, *]; omega), rfl⟩
      · skip
        rw [g14] at H32
        refine px_iload dX12_isWord_35 rfl ?_
        refine px_iconst (v := 2) dX12_isWord_37 (by decide) ?_
        refine px_icmp_lt (tgt := 56) dX12_isWord_38 (by decide) (fun H38 => ?_) (fun H38 => ?_)
        · skip
          rw [lw_2 hn] at H38
          refine px_iload dX12_isWord_56 rfl ?_
          refine px_iconst (v := 3) dX12_isWord_58 (by decide) ?_
          refine px_icmp_lt (tgt := 77) dX12_isWord_59 (by decide) (fun H59 => ?_) (fun H59 => ?_)
          · skip
            rw [lw_3 hn] at H59
            refine px_iload dX12_isWord_77 rfl ?_
            refine px_iconst (v := 4) dX12_isWord_79 (by decide) ?_
            refine px_icmp_lt (tgt := 99) dX12_isWord_80 (by decide) (fun H80 => ?_) (fun H80 => ?_)
            · skip
              rw [lw_4 hn] at H80
              refine px_iload dX12_isWord_99 rfl ?_
              refine px_iconst (v := 5) dX12_isWord_101 (by decide) ?_
              refine px_icmp_lt (tgt := 121) dX12_isWord_102 (by decide) (fun H102 => ?_) (fun H102 => ?_)
              · skip
                rw [lw_5 hn] at H102
                refine px_iload dX12_isWord_121 rfl ?_
                refine px_bipush (v := 6) dX12_isWord_123 (by decide) ?_
                refine px_icmp_lt (tgt := 144) dX12_isWord_125 (by decide) (fun H125 => ?_) (fun H125 => ?_)
                · skip
                  rw [lw_6 hn] at H125
                  refine px_iconst (v := 1) dX12_isWord_144 (by decide) ?_
                  refine px_goto (tgt := 149) dX12_isWord_145 (by decide) ?_
                  refine px_iretZ dX12_isWord_149 rfl (by first | rfl | decide) ?_
                  exact ⟨by first | (simp [bI, isWb, *]; done) | (simp [bI, isWb, *]; omega), rfl⟩
                · skip
                  rw [lw_6 hn] at H125
                  refine px_aload_n dX12_isWord_128 rfl rfl ?_
                  refine mx_getA (k := 14) (j := 11) dX12_isWord_129 gX12_44 (fun _ => rfl) ?_
                  refine px_aload_n dX12_isWord_132 rfl rfl ?_
                  refine mx_getI (k := 24) dX12_isWord_133 gX12_155 (fun _ => rfl) ?_
                  refine px_iconst (v := 5) dX12_isWord_136 (by decide) ?_
                  refine px_iadd dX12_isWord_137 ?_
                  refine mx_bald (j := 11) (k := 14) (a + 5) dX12_isWord_138 rfl (show nI a + nI 5 = nI (a + 5) from nI_add ..) (by omega) (by decide) ?_
                  refine px_iload dX12_isWord_139 rfl ?_
                  refine px_icmp_ne (tgt := 148) dX12_isWord_141 (by decide) (fun H141 => ?_) (fun H141 => ?_)
                  · skip
                    rw [g14] at H141
                    refine px_iconst (v := 0) dX12_isWord_148 (by decide) ?_
                    refine px_iretZ dX12_isWord_149 rfl (by first | rfl | decide) ?_
                    exact ⟨by first | (simp [bI, isWb, *]; done) | (simp [bI, isWb, *]; omega), rfl⟩
                  · skip
                    rw [g14] at H141
                    refine px_iconst (v := 1) dX12_isWord_144 (by decide) ?_
                    refine px_goto (tgt := 149) dX12_isWord_145 (by decide) ?_
                    refine px_iretZ dX12_isWord_149 rfl (by first | rfl | decide) ?_
                    exact ⟨by first | (simp [bI, isWb, *]; done) | (simp [bI, isWb, *]; omega), rfl⟩
              · skip
                rw [lw_5 hn] at H102
                refine px_aload_n dX12_isWord_105 rfl rfl ?_
                refine mx_getA (k := 14) (j := 11) dX12_isWord_106 gX12_44 (fun _ => rfl) ?_
                refine px_aload_n dX12_isWord_109 rfl rfl ?_
                refine mx_getI (k := 24) dX12_isWord_110 gX12_155 (fun _ => rfl) ?_
                refine px_iconst (v := 4) dX12_isWord_113 (by decide) ?_
                refine px_iadd dX12_isWord_114 ?_
                refine mx_bald (j := 11) (k := 14) (a + 4) dX12_isWord_115 rfl (show nI a + nI 4 = nI (a + 4) from nI_add ..) (by omega) (by decide) ?_
                refine px_iload dX12_isWord_116 rfl ?_
                refine px_icmp_ne (tgt := 148) dX12_isWord_118 (by decide) (fun H118 => ?_) (fun H118 => ?_)
                · skip
                  rw [g14] at H118
                  refine px_iconst (v := 0) dX12_isWord_148 (by decide) ?_
                  refine px_iretZ dX12_isWord_149 rfl (by first | rfl | decide) ?_
                  exact ⟨by first | (simp [bI, isWb, *]; done) | (simp [bI, isWb, *]; omega), rfl⟩
                · skip
                  rw [g14] at H118
                  refine px_iload dX12_isWord_121 rfl ?_
                  refine px_bipush (v := 6) dX12_isWord_123 (by decide) ?_
                  refine px_icmp_lt (tgt := 144) dX12_isWord_125 (by decide) (fun H125 => ?_) (fun H125 => ?_)
                  · skip
                    rw [lw_6 hn] at H125
                    refine px_iconst (v := 1) dX12_isWord_144 (by decide) ?_
                    refine px_goto (tgt := 149) dX12_isWord_145 (by decide) ?_
                    refine px_iretZ dX12_isWord_149 rfl (by first | rfl | decide) ?_
                    exact ⟨by first | (simp [bI, isWb, *]; done) | (simp [bI, isWb, *]; omega), rfl⟩
                  · skip
                    rw [lw_6 hn] at H125
                    refine px_aload_n dX12_isWord_128 rfl rfl ?_
                    refine mx_getA (k := 14) (j := 11) dX12_isWord_129 gX12_44 (fun _ => rfl) ?_
                    refine px_aload_n dX12_isWord_132 rfl rfl ?_
                    refine mx_getI (k := 24) dX12_isWord_133 gX12_155 (fun _ => rfl) ?_
                    refine px_iconst (v := 5) dX12_isWord_136 (by decide) ?_
                    refine px_iadd dX12_isWord_137 ?_
                    refine mx_bald (j := 11) (k := 14) (a + 5) dX12_isWord_138 rfl (show nI a + nI 5 = nI (a + 5) from nI_add ..) (by omega) (by decide) ?_
                    refine px_iload dX12_isWord_139 rfl ?_
                    refine px_icmp_ne (tgt := 148) dX12_isWord_141 (by decide) (fun H141 => ?_) (fun H141 => ?_)
                    · skip
                      rw [g14] at H141
                      refine px_iconst (v := 0) dX12_isWord_148 (by decide) ?_
                      refine px_iretZ dX12_isWord_149 rfl (by first | rfl | decide) ?_
                      exact ⟨by first | (simp [bI, isWb, *]; done) | (simp [bI, isWb, *]; omega), rfl⟩
                    · skip
                      rw [g14] at H141
                      refine px_iconst (v := 1) dX12_isWord_144 (by decide) ?_
                      refine px_goto (tgt := 149) dX12_isWord_145 (by decide) ?_
                      refine px_iretZ dX12_isWord_149 rfl (by first | rfl | decide) ?_
                      exact ⟨by first | (simp [bI, isWb, *]; done) | (simp [bI, isWb, *]; omega), rfl⟩
            · skip
              rw [lw_4 hn] at H80
              refine px_aload_n dX12_isWord_83 rfl rfl ?_
              refine mx_getA (k := 14) (j := 11) dX12_isWord_84 gX12_44 (fun _ => rfl) ?_
              refine px_aload_n dX12_isWord_87 rfl rfl ?_
              refine mx_getI (k := 24) dX12_isWord_88 gX12_155 (fun _ => rfl) ?_
              refine px_iconst (v := 3) dX12_isWord_91 (by decide) ?_
              refine px_iadd dX12_isWord_92 ?_
              refine mx_bald (j := 11) (k := 14) (a + 3) dX12_isWord_93 rfl (show nI a + nI 3 = nI (a + 3) from nI_add ..) (by omega) (by decide) ?_
              refine px_iload dX12_isWord_94 rfl ?_
              refine px_icmp_ne (tgt := 148) dX12_isWord_96 (by decide) (fun H96 => ?_) (fun H96 => ?_)
              · skip
                rw [g14] at H96
                refine px_iconst (v := 0) dX12_isWord_148 (by decide) ?_
                refine px_iretZ dX12_isWord_149 rfl (by first | rfl | decide) ?_
                exact ⟨by first | (simp [bI, isWb, *]; done) | (simp [bI, isWb, *]; omega), rfl⟩
              · skip
                rw [g14] at H96
                refine px_iload dX12_isWord_99 rfl ?_
                refine px_iconst (v := 5) dX12_isWord_101 (by decide) ?_
                refine px_icmp_lt (tgt := 121) dX12_isWord_102 (by decide) (fun H102 => ?_) (fun H102 => ?_)
                · skip
                  rw [lw_5 hn] at H102
                  refine px_iload dX12_isWord_121 rfl ?_
                  refine px_bipush (v := 6) dX12_isWord_123 (by decide) ?_
                  refine px_icmp_lt (tgt := 144) dX12_isWord_125 (by decide) (fun H125 => ?_) (fun H125 => ?_)
                  · skip
                    rw [lw_6 hn] at H125
                    refine px_iconst (v := 1) dX12_isWord_144 (by decide) ?_
                    refine px_goto (tgt := 149) dX12_isWord_145 (by decide) ?_
                    refine px_iretZ dX12_isWord_149 rfl (by first | rfl | decide) ?_
                    exact ⟨by first | (simp [bI, isWb, *]; done) | (simp [bI, isWb, *]; omega), rfl⟩
                  · skip
                    rw [lw_6 hn] at H125
                    refine px_aload_n dX12_isWord_128 rfl rfl ?_
                    refine mx_getA (k := 14) (j := 11) dX12_isWord_129 gX12_44 (fun _ => rfl) ?_
                    refine px_aload_n dX12_isWord_132 rfl rfl ?_
                    refine mx_getI (k := 24) dX12_isWord_133 gX12_155 (fun _ => rfl) ?_
                    refine px_iconst (v := 5) dX12_isWord_136 (by decide) ?_
                    refine px_iadd dX12_isWord_137 ?_
                    refine mx_bald (j := 11) (k := 14) (a + 5) dX12_isWord_138 rfl (show nI a + nI 5 = nI (a + 5) from nI_add ..) (by omega) (by decide) ?_
                    refine px_iload dX12_isWord_139 rfl ?_
                    refine px_icmp_ne (tgt := 148) dX12_isWord_141 (by decide) (fun H141 => ?_) (fun H141 => ?_)
                    · skip
                      rw [g14] at H141
                      refine px_iconst (v := 0) dX12_isWord_148 (by decide) ?_
                      refine px_iretZ dX12_isWord_149 rfl (by first | rfl | decide) ?_
                      exact ⟨by first | (simp [bI, isWb, *]; done) | (simp [bI, isWb, *]; omega), rfl⟩
                    · skip
                      rw [g14] at H141
                      refine px_iconst (v := 1) dX12_isWord_144 (by decide) ?_
                      refine px_goto (tgt := 149) dX12_isWord_145 (by decide) ?_
                      refine px_iretZ dX12_isWord_149 rfl (by first | rfl | decide) ?_
                      exact ⟨by first | (simp [bI, isWb, *]; done) | (simp [bI, isWb, *]; omega), rfl⟩
                · skip
                  rw [lw_5 hn] at H102
                  refine px_aload_n dX12_isWord_105 rfl rfl ?_
                  refine mx_getA (k := 14) (j := 11) dX12_isWord_106 gX12_44 (fun _ => rfl) ?_
                  refine px_aload_n dX12_isWord_109 rfl rfl ?_
                  refine mx_getI (k := 24) dX12_isWord_110 gX12_155 (fun _ => rfl) ?_
                  refine px_iconst (v := 4) dX12_isWord_113 (by decide) ?_
                  refine px_iadd dX12_isWord_114 ?_
                  refine mx_bald (j := 11) (k := 14) (a + 4) dX12_isWord_115 rfl (show nI a + nI 4 = nI (a + 4) from nI_add ..) (by omega) (by decide) ?_
                  refine px_iload dX12_isWord_116 rfl ?_
                  refine px_icmp_ne (tgt := 148) dX12_isWord_118 (by decide) (fun H118 => ?_) (fun H118 => ?_)
                  · skip
                    rw [g14] at H118
                    refine px_iconst (v := 0) dX12_isWord_148 (by decide) ?_
                    refine px_iretZ dX12_isWord_149 rfl (by first | rfl | decide) ?_
                    exact ⟨by first | (simp [bI, isWb, *]; done) | (simp [bI, isWb, *]; omega), rfl⟩
                  · skip
                    rw [g14] at H118
                    refine px_iload dX12_isWord_121 rfl ?_
                    refine px_bipush (v := 6) dX12_isWord_123 (by decide) ?_
                    refine px_icmp_lt (tgt := 144) dX12_isWord_125 (by decide) (fun H125 => ?_) (fun H125 => ?_)
                    · skip
                      rw [lw_6 hn] at H125
                      refine px_iconst (v := 1) dX12_isWord_144 (by decide) ?_
                      refine px_goto (tgt := 149) dX12_isWord_145 (by decide) ?_
                      refine px_iretZ dX12_isWord_149 rfl (by first | rfl | decide) ?_
                      exact ⟨by first | (simp [bI, isWb, *]; done) | (simp [bI, isWb, *]; omega), rfl⟩
                    · skip
                      rw [lw_6 hn] at H125
                      refine px_aload_n dX12_isWord_128 rfl rfl ?_
                      refine mx_getA (k := 14) (j := 11) dX12_isWord_129 gX12_44 (fun _ => rfl) ?_
                      refine px_aload_n dX12_isWord_132 rfl rfl ?_
                      refine mx_getI (k := 24) dX12_isWord_133 gX12_155 (fun _ => rfl) ?_
                      refine px_iconst (v := 5) dX12_isWord_136 (by decide) ?_
                      refine px_iadd dX12_isWord_137 ?_
                      refine mx_bald (j := 11) (k := 14) (a + 5) dX12_isWord_138 rfl (show nI a + nI 5 = nI (a + 5) from nI_add ..) (by omega) (by decide) ?_
                      refine px_iload dX12_isWord_139 rfl ?_
                      refine px_icmp_ne (tgt := 148) dX12_isWord_141 (by decide) (fun H141 => ?_) (fun H141 => ?_)
                      · skip
                        rw [g14] at H141
                        refine px_iconst (v := 0) dX12_isWord_148 (by decide) ?_
                        refine px_iretZ dX12_isWord_149 rfl (by first | rfl | decide) ?_
                        exact ⟨by first | (simp [bI, isWb, *]; done) | (simp [bI, isWb, *]; omega), rfl⟩
                      · skip
                        rw [g14] at H141
                        refine px_iconst (v := 1) dX12_isWord_144 (by decide) ?_
                        refine px_goto (tgt := 149) dX12_isWord_145 (by decide) ?_
                        refine px_iretZ dX12_isWord_149 rfl (by first | rfl | decide) ?_
                        exact ⟨by first | (simp [bI, isWb, *]; done) | (simp [bI, isWb, *]; omega), rfl⟩
          · skip
            rw [lw_3 hn] at H59
            refine px_aload_n dX12_isWord_62 rfl rfl ?_
            refine mx_getA (k := 14) (j := 11) dX12_isWord_63 gX12_44 (fun _ => rfl) ?_
            refine px_aload_n dX12_isWord_66 rfl rfl ?_
            refine mx_getI (k := 24) dX12_isWord_67 gX12_155 (fun _ => rfl) ?_
            refine px_iconst (v := 2) dX12_isWord_70 (by decide) ?_
            refine px_iadd dX12_isWord_71 ?_
            refine mx_bald (j := 11) (k := 14) (a + 2) dX12_isWord_72 rfl (show nI a + nI 2 = nI (a + 2) from nI_add ..) (by omega) (by decide) ?_
            refine px_iload_n dX12_isWord_73 rfl rfl ?_
            refine px_icmp_ne (tgt := 148) dX12_isWord_74 (by decide) (fun H74 => ?_) (fun H74 => ?_)
            · skip
              rw [g14] at H74
              refine px_iconst (v := 0) dX12_isWord_148 (by decide) ?_
              refine px_iretZ dX12_isWord_149 rfl (by first | rfl | decide) ?_
              exact ⟨by first | (simp [bI, isWb, *]; done) | (simp [bI, isWb, *]; omega), rfl⟩
            · skip
              rw [g14] at H74
              refine px_iload dX12_isWord_77 rfl ?_
              refine px_iconst (v := 4) dX12_isWord_79 (by decide) ?_
              refine px_icmp_lt (tgt := 99) dX12_isWord_80 (by decide) (fun H80 => ?_) (fun H80 => ?_)
              · skip
                rw [lw_4 hn] at H80
                refine px_iload dX12_isWord_99 rfl ?_
                refine px_iconst (v := 5) dX12_isWord_101 (by decide) ?_
                refine px_icmp_lt (tgt := 121) dX12_isWord_102 (by decide) (fun H102 => ?_) (fun H102 => ?_)
                · skip
                  rw [lw_5 hn] at H102
                  refine px_iload dX12_isWord_121 rfl ?_
                  refine px_bipush (v := 6) dX12_isWord_123 (by decide) ?_
                  refine px_icmp_lt (tgt := 144) dX12_isWord_125 (by decide) (fun H125 => ?_) (fun H125 => ?_)
                  · skip
                    rw [lw_6 hn] at H125
                    refine px_iconst (v := 1) dX12_isWord_144 (by decide) ?_
                    refine px_goto (tgt := 149) dX12_isWord_145 (by decide) ?_
                    refine px_iretZ dX12_isWord_149 rfl (by first | rfl | decide) ?_
                    exact ⟨by first | (simp [bI, isWb, *]; done) | (simp [bI, isWb, *]; omega), rfl⟩
                  · skip
                    rw [lw_6 hn] at H125
                    refine px_aload_n dX12_isWord_128 rfl rfl ?_
                    refine mx_getA (k := 14) (j := 11) dX12_isWord_129 gX12_44 (fun _ => rfl) ?_
                    refine px_aload_n dX12_isWord_132 rfl rfl ?_
                    refine mx_getI (k := 24) dX12_isWord_133 gX12_155 (fun _ => rfl) ?_
                    refine px_iconst (v := 5) dX12_isWord_136 (by decide) ?_
                    refine px_iadd dX12_isWord_137 ?_
                    refine mx_bald (j := 11) (k := 14) (a + 5) dX12_isWord_138 rfl (show nI a + nI 5 = nI (a + 5) from nI_add ..) (by omega) (by decide) ?_
                    refine px_iload dX12_isWord_139 rfl ?_
                    refine px_icmp_ne (tgt := 148) dX12_isWord_141 (by decide) (fun H141 => ?_) (fun H141 => ?_)
                    · skip
                      rw [g14] at H141
                      refine px_iconst (v := 0) dX12_isWord_148 (by decide) ?_
                      refine px_iretZ dX12_isWord_149 rfl (by first | rfl | decide) ?_
                      exact ⟨by first | (simp [bI, isWb, *]; done) | (simp [bI, isWb, *]; omega), rfl⟩
                    · skip
                      rw [g14] at H141
                      refine px_iconst (v := 1) dX12_isWord_144 (by decide) ?_
                      refine px_goto (tgt := 149) dX12_isWord_145 (by decide) ?_
                      refine px_iretZ dX12_isWord_149 rfl (by first | rfl | decide) ?_
                      exact ⟨by first | (simp [bI, isWb, *]; done) | (simp [bI, isWb, *]; omega), rfl⟩
                · skip
                  rw [lw_5 hn] at H102
                  refine px_aload_n dX12_isWord_105 rfl rfl ?_
                  refine mx_getA (k := 14) (j := 11) dX12_isWord_106 gX12_44 (fun _ => rfl) ?_
                  refine px_aload_n dX12_isWord_109 rfl rfl ?_
                  refine mx_getI (k := 24) dX12_isWord_110 gX12_155 (fun _ => rfl) ?_
                  refine px_iconst (v := 4) dX12_isWord_113 (by decide) ?_
                  refine px_iadd dX12_isWord_114 ?_
                  refine mx_bald (j := 11) (k := 14) (a + 4) dX12_isWord_115 rfl (show nI a + nI 4 = nI (a + 4) from nI_add ..) (by omega) (by decide) ?_
                  refine px_iload dX12_isWord_116 rfl ?_
                  refine px_icmp_ne (tgt := 148) dX12_isWord_118 (by decide) (fun H118 => ?_) (fun H118 => ?_)
                  · skip
                    rw [g14] at H118
                    refine px_iconst (v := 0) dX12_isWord_148 (by decide) ?_
                    refine px_iretZ dX12_isWord_149 rfl (by first | rfl | decide) ?_
                    exact ⟨by first | (simp [bI, isWb, *]; done) | (simp [bI, isWb, *]; omega), rfl⟩
                  · skip
                    rw [g14] at H118
                    refine px_iload dX12_isWord_121 rfl ?_
                    refine px_bipush (v := 6) dX12_isWord_123 (by decide) ?_
                    refine px_icmp_lt (tgt := 144) dX12_isWord_125 (by decide) (fun H125 => ?_) (fun H125 => ?_)
                    · skip
                      rw [lw_6 hn] at H125
                      refine px_iconst (v := 1) dX12_isWord_144 (by decide) ?_
                      refine px_goto (tgt := 149) dX12_isWord_145 (by decide) ?_
                      refine px_iretZ dX12_isWord_149 rfl (by first | rfl | decide) ?_
                      exact ⟨by first | (simp [bI, isWb, *]; done) | (simp [bI, isWb, *]; omega), rfl⟩
                    · skip
                      rw [lw_6 hn] at H125
                      refine px_aload_n dX12_isWord_128 rfl rfl ?_
                      refine mx_getA (k := 14) (j := 11) dX12_isWord_129 gX12_44 (fun _ => rfl) ?_
                      refine px_aload_n dX12_isWord_132 rfl rfl ?_
                      refine mx_getI (k := 24) dX12_isWord_133 gX12_155 (fun _ => rfl) ?_
                      refine px_iconst (v := 5) dX12_isWord_136 (by decide) ?_
                      refine px_iadd dX12_isWord_137 ?_
                      refine mx_bald (j := 11) (k := 14) (a + 5) dX12_isWord_138 rfl (show nI a + nI 5 = nI (a + 5) from nI_add ..) (by omega) (by decide) ?_
                      refine px_iload dX12_isWord_139 rfl ?_
                      refine px_icmp_ne (tgt := 148) dX12_isWord_141 (by decide) (fun H141 => ?_) (fun H141 => ?_)
                      · skip
                        rw [g14] at H141
                        refine px_iconst (v := 0) dX12_isWord_148 (by decide) ?_
                        refine px_iretZ dX12_isWord_149 rfl (by first | rfl | decide) ?_
                        exact ⟨by first | (simp [bI, isWb, *]; done) | (simp [bI, isWb, *]; omega), rfl⟩
                      · skip
                        rw [g14] at H141
                        refine px_iconst (v := 1) dX12_isWord_144 (by decide) ?_
                        refine px_goto (tgt := 149) dX12_isWord_145 (by decide) ?_
                        refine px_iretZ dX12_isWord_149 rfl (by first | rfl | decide) ?_
                        exact ⟨by first | (simp [bI, isWb, *]; done) | (simp [bI, isWb, *]; omega), rfl⟩
              · skip
                rw [lw_4 hn] at H80
                refine px_aload_n dX12_isWord_83 rfl rfl ?_
                refine mx_getA (k := 14) (j := 11) dX12_isWord_84 gX12_44 (fun _ => rfl) ?_
                refine px_aload_n dX12_isWord_87 rfl rfl ?_
                refine mx_getI (k := 24) dX12_isWord_88 gX12_155 (fun _ => rfl) ?_
                refine px_iconst (v := 3) dX12_isWord_91 (by decide) ?_
                refine px_iadd dX12_isWord_92 ?_
                refine mx_bald (j := 11) (k := 14) (a + 3) dX12_isWord_93 rfl (show nI a + nI 3 = nI (a + 3) from nI_add ..) (by omega) (by decide) ?_
                refine px_iload dX12_isWord_94 rfl ?_
                refine px_icmp_ne (tgt := 148) dX12_isWord_96 (by decide) (fun H96 => ?_) (fun H96 => ?_)
                · skip
                  rw [g14] at H96
                  refine px_iconst (v := 0) dX12_isWord_148 (by decide) ?_
                  refine px_iretZ dX12_isWord_149 rfl (by first | rfl | decide) ?_
                  exact ⟨by first | (simp [bI, isWb, *]; done) | (simp [bI, isWb, *]; omega), rfl⟩
                · skip
                  rw [g14] at H96
                  refine px_iload dX12_isWord_99 rfl ?_
                  refine px_iconst (v := 5) dX12_isWord_101 (by decide) ?_
                  refine px_icmp_lt (tgt := 121) dX12_isWord_102 (by decide) (fun H102 => ?_) (fun H102 => ?_)
                  · skip
                    rw [lw_5 hn] at H102
                    refine px_iload dX12_isWord_121 rfl ?_
                    refine px_bipush (v := 6) dX12_isWord_123 (by decide) ?_
                    refine px_icmp_lt (tgt := 144) dX12_isWord_125 (by decide) (fun H125 => ?_) (fun H125 => ?_)
                    · skip
                      rw [lw_6 hn] at H125
                      refine px_iconst (v := 1) dX12_isWord_144 (by decide) ?_
                      refine px_goto (tgt := 149) dX12_isWord_145 (by decide) ?_
                      refine px_iretZ dX12_isWord_149 rfl (by first | rfl | decide) ?_
                      exact ⟨by first | (simp [bI, isWb, *]; done) | (simp [bI, isWb, *]; omega), rfl⟩
                    · skip
                      rw [lw_6 hn] at H125
                      refine px_aload_n dX12_isWord_128 rfl rfl ?_
                      refine mx_getA (k := 14) (j := 11) dX12_isWord_129 gX12_44 (fun _ => rfl) ?_
                      refine px_aload_n dX12_isWord_132 rfl rfl ?_
                      refine mx_getI (k := 24) dX12_isWord_133 gX12_155 (fun _ => rfl) ?_
                      refine px_iconst (v := 5) dX12_isWord_136 (by decide) ?_
                      refine px_iadd dX12_isWord_137 ?_
                      refine mx_bald (j := 11) (k := 14) (a + 5) dX12_isWord_138 rfl (show nI a + nI 5 = nI (a + 5) from nI_add ..) (by omega) (by decide) ?_
                      refine px_iload dX12_isWord_139 rfl ?_
                      refine px_icmp_ne (tgt := 148) dX12_isWord_141 (by decide) (fun H141 => ?_) (fun H141 => ?_)
                      · skip
                        rw [g14] at H141
                        refine px_iconst (v := 0) dX12_isWord_148 (by decide) ?_
                        refine px_iretZ dX12_isWord_149 rfl (by first | rfl | decide) ?_
                        exact ⟨by first | (simp [bI, isWb, *]; done) | (simp [bI, isWb, *]; omega), rfl⟩
                      · skip
                        rw [g14] at H141
                        refine px_iconst (v := 1) dX12_isWord_144 (by decide) ?_
                        refine px_goto (tgt := 149) dX12_isWord_145 (by decide) ?_
                        refine px_iretZ dX12_isWord_149 rfl (by first | rfl | decide) ?_
                        exact ⟨by first | (simp [bI, isWb, *]; done) | (simp [bI, isWb, *]; omega), rfl⟩
                  · skip
                    rw [lw_5 hn] at H102
                    refine px_aload_n dX12_isWord_105 rfl rfl ?_
                    refine mx_getA (k := 14) (j := 11) dX12_isWord_106 gX12_44 (fun _ => rfl) ?_
                    refine px_aload_n dX12_isWord_109 rfl rfl ?_
                    refine mx_getI (k := 24) dX12_isWord_110 gX12_155 (fun _ => rfl) ?_
                    refine px_iconst (v := 4) dX12_isWord_113 (by decide) ?_
                    refine px_iadd dX12_isWord_114 ?_
                    refine mx_bald (j := 11) (k := 14) (a + 4) dX12_isWord_115 rfl (show nI a + nI 4 = nI (a + 4) from nI_add ..) (by omega) (by decide) ?_
                    refine px_iload dX12_isWord_116 rfl ?_
                    refine px_icmp_ne (tgt := 148) dX12_isWord_118 (by decide) (fun H118 => ?_) (fun H118 => ?_)
                    · skip
                      rw [g14] at H118
                      refine px_iconst (v := 0) dX12_isWord_148 (by decide) ?_
                      refine px_iretZ dX12_isWord_149 rfl (by first | rfl | decide) ?_
                      exact ⟨by first | (simp [bI, isWb, *]; done) | (simp [bI, isWb, *]; omega), rfl⟩
                    · skip
                      rw [g14] at H118
                      refine px_iload dX12_isWord_121 rfl ?_
                      refine px_bipush (v := 6) dX12_isWord_123 (by decide) ?_
                      refine px_icmp_lt (tgt := 144) dX12_isWord_125 (by decide) (fun H125 => ?_) (fun H125 => ?_)
                      · skip
                        rw [lw_6 hn] at H125
                        refine px_iconst (v := 1) dX12_isWord_144 (by decide) ?_
                        refine px_goto (tgt := 149) dX12_isWord_145 (by decide) ?_
                        refine px_iretZ dX12_isWord_149 rfl (by first | rfl | decide) ?_
                        exact ⟨by first | (simp [bI, isWb, *]; done) | (simp [bI, isWb, *]; omega), rfl⟩
                      · skip
                        rw [lw_6 hn] at H125
                        refine px_aload_n dX12_isWord_128 rfl rfl ?_
                        refine mx_getA (k := 14) (j := 11) dX12_isWord_129 gX12_44 (fun _ => rfl) ?_
                        refine px_aload_n dX12_isWord_132 rfl rfl ?_
                        refine mx_getI (k := 24) dX12_isWord_133 gX12_155 (fun _ => rfl) ?_
                        refine px_iconst (v := 5) dX12_isWord_136 (by decide) ?_
                        refine px_iadd dX12_isWord_137 ?_
                        refine mx_bald (j := 11) (k := 14) (a + 5) dX12_isWord_138 rfl (show nI a + nI 5 = nI (a + 5) from nI_add ..) (by omega) (by decide) ?_
                        refine px_iload dX12_isWord_139 rfl ?_
                        refine px_icmp_ne (tgt := 148) dX12_isWord_141 (by decide) (fun H141 => ?_) (fun H141 => ?_)
                        · skip
                          rw [g14] at H141
                          refine px_iconst (v := 0) dX12_isWord_148 (by decide) ?_
                          refine px_iretZ dX12_isWord_149 rfl (by first | rfl | decide) ?_
                          exact ⟨by first | (simp [bI, isWb, *]; done) | (simp [bI, isWb, *]; omega), rfl⟩
                        · skip
                          rw [g14] at H141
                          refine px_iconst (v := 1) dX12_isWord_144 (by decide) ?_
                          refine px_goto (tgt := 149) dX12_isWord_145 (by decide) ?_
                          refine px_iretZ dX12_isWord_149 rfl (by first | rfl | decide) ?_
                          exact ⟨by first | (simp [bI, isWb, *]; done) | (simp [bI, isWb, *]; omega), rfl⟩
        · skip
          rw [lw_2 hn] at H38
          refine px_aload_n dX12_isWord_41 rfl rfl ?_
          refine mx_getA (k := 14) (j := 11) dX12_isWord_42 gX12_44 (fun _ => rfl) ?_
          refine px_aload_n dX12_isWord_45 rfl rfl ?_
          refine mx_getI (k := 24) dX12_isWord_46 gX12_155 (fun _ => rfl) ?_
          refine px_iconst (v := 1) dX12_isWord_49 (by decide) ?_
          refine px_iadd dX12_isWord_50 ?_
          refine mx_bald (j := 11) (k := 14) (a + 1) dX12_isWord_51 rfl (show nI a + nI 1 = nI (a + 1) from nI_add ..) (by omega) (by decide) ?_
          refine px_iload_n dX12_isWord_52 rfl rfl ?_
          refine px_icmp_ne (tgt := 148) dX12_isWord_53 (by decide) (fun H53 => ?_) (fun H53 => ?_)
          · skip
            rw [g14] at H53
            refine px_iconst (v := 0) dX12_isWord_148 (by decide) ?_
            refine px_iretZ dX12_isWord_149 rfl (by first | rfl | decide) ?_
            exact ⟨by first | (simp [bI, isWb, *]; done) | (simp [bI, isWb, *]; omega), rfl⟩
          · skip
            rw [g14] at H53
            refine px_iload dX12_isWord_56 rfl ?_
            refine px_iconst (v := 3) dX12_isWord_58 (by decide) ?_
            refine px_icmp_lt (tgt := 77) dX12_isWord_59 (by decide) (fun H59 => ?_) (fun H59 => ?_)
            · skip
              rw [lw_3 hn] at H59
              refine px_iload dX12_isWord_77 rfl ?_
              refine px_iconst (v := 4) dX12_isWord_79 (by decide) ?_
              refine px_icmp_lt (tgt := 99) dX12_isWord_80 (by decide) (fun H80 => ?_) (fun H80 => ?_)
              · skip
                rw [lw_4 hn] at H80
                refine px_iload dX12_isWord_99 rfl ?_
                refine px_iconst (v := 5) dX12_isWord_101 (by decide) ?_
                refine px_icmp_lt (tgt := 121) dX12_isWord_102 (by decide) (fun H102 => ?_) (fun H102 => ?_)
                · skip
                  rw [lw_5 hn] at H102
                  refine px_iload dX12_isWord_121 rfl ?_
                  refine px_bipush (v := 6) dX12_isWord_123 (by decide) ?_
                  refine px_icmp_lt (tgt := 144) dX12_isWord_125 (by decide) (fun H125 => ?_) (fun H125 => ?_)
                  · skip
                    rw [lw_6 hn] at H125
                    refine px_iconst (v := 1) dX12_isWord_144 (by decide) ?_
                    refine px_goto (tgt := 149) dX12_isWord_145 (by decide) ?_
                    refine px_iretZ dX12_isWord_149 rfl (by first | rfl | decide) ?_
                    exact ⟨by first | (simp [bI, isWb, *]; done) | (simp [bI, isWb, *]; omega), rfl⟩
                  · skip
                    rw [lw_6 hn] at H125
                    refine px_aload_n dX12_isWord_128 rfl rfl ?_
                    refine mx_getA (k := 14) (j := 11) dX12_isWord_129 gX12_44 (fun _ => rfl) ?_
                    refine px_aload_n dX12_isWord_132 rfl rfl ?_
                    refine mx_getI (k := 24) dX12_isWord_133 gX12_155 (fun _ => rfl) ?_
                    refine px_iconst (v := 5) dX12_isWord_136 (by decide) ?_
                    refine px_iadd dX12_isWord_137 ?_
                    refine mx_bald (j := 11) (k := 14) (a + 5) dX12_isWord_138 rfl (show nI a + nI 5 = nI (a + 5) from nI_add ..) (by omega) (by decide) ?_
                    refine px_iload dX12_isWord_139 rfl ?_
                    refine px_icmp_ne (tgt := 148) dX12_isWord_141 (by decide) (fun H141 => ?_) (fun H141 => ?_)
                    · skip
                      rw [g14] at H141
                      refine px_iconst (v := 0) dX12_isWord_148 (by decide) ?_
                      refine px_iretZ dX12_isWord_149 rfl (by first | rfl | decide) ?_
                      exact ⟨by first | (simp [bI, isWb, *]; done) | (simp [bI, isWb, *]; omega), rfl⟩
                    · skip
                      rw [g14] at H141
                      refine px_iconst (v := 1) dX12_isWord_144 (by decide) ?_
                      refine px_goto (tgt := 149) dX12_isWord_145 (by decide) ?_
                      refine px_iretZ dX12_isWord_149 rfl (by first | rfl | decide) ?_
                      exact ⟨by first | (simp [bI, isWb, *]; done) | (simp [bI, isWb, *]; omega), rfl⟩
                · skip
                  rw [lw_5 hn] at H102
                  refine px_aload_n dX12_isWord_105 rfl rfl ?_
                  refine mx_getA (k := 14) (j := 11) dX12_isWord_106 gX12_44 (fun _ => rfl) ?_
                  refine px_aload_n dX12_isWord_109 rfl rfl ?_
                  refine mx_getI (k := 24) dX12_isWord_110 gX12_155 (fun _ => rfl) ?_
                  refine px_iconst (v := 4) dX12_isWord_113 (by decide) ?_
                  refine px_iadd dX12_isWord_114 ?_
                  refine mx_bald (j := 11) (k := 14) (a + 4) dX12_isWord_115 rfl (show nI a + nI 4 = nI (a + 4) from nI_add ..) (by omega) (by decide) ?_
                  refine px_iload dX12_isWord_116 rfl ?_
                  refine px_icmp_ne (tgt := 148) dX12_isWord_118 (by decide) (fun H118 => ?_) (fun H118 => ?_)
                  · skip
                    rw [g14] at H118
                    refine px_iconst (v := 0) dX12_isWord_148 (by decide) ?_
                    refine px_iretZ dX12_isWord_149 rfl (by first | rfl | decide) ?_
                    exact ⟨by first | (simp [bI, isWb, *]; done) | (simp [bI, isWb, *]; omega), rfl⟩
                  · skip
                    rw [g14] at H118
                    refine px_iload dX12_isWord_121 rfl ?_
                    refine px_bipush (v := 6) dX12_isWord_123 (by decide) ?_
                    refine px_icmp_lt (tgt := 144) dX12_isWord_125 (by decide) (fun H125 => ?_) (fun H125 => ?_)
                    · skip
                      rw [lw_6 hn] at H125
                      refine px_iconst (v := 1) dX12_isWord_144 (by decide) ?_
                      refine px_goto (tgt := 149) dX12_isWord_145 (by decide) ?_
                      refine px_iretZ dX12_isWord_149 rfl (by first | rfl | decide) ?_
                      exact ⟨by first | (simp [bI, isWb, *]; done) | (simp [bI, isWb, *]; omega), rfl⟩
                    · skip
                      rw [lw_6 hn] at H125
                      refine px_aload_n dX12_isWord_128 rfl rfl ?_
                      refine mx_getA (k := 14) (j := 11) dX12_isWord_129 gX12_44 (fun _ => rfl) ?_
                      refine px_aload_n dX12_isWord_132 rfl rfl ?_
                      refine mx_getI (k := 24) dX12_isWord_133 gX12_155 (fun _ => rfl) ?_
                      refine px_iconst (v := 5) dX12_isWord_136 (by decide) ?_
                      refine px_iadd dX12_isWord_137 ?_
                      refine mx_bald (j := 11) (k := 14) (a + 5) dX12_isWord_138 rfl (show nI a + nI 5 = nI (a + 5) from nI_add ..) (by omega) (by decide) ?_
                      refine px_iload dX12_isWord_139 rfl ?_
                      refine px_icmp_ne (tgt := 148) dX12_isWord_141 (by decide) (fun H141 => ?_) (fun H141 => ?_)
                      · skip
                        rw [g14] at H141
                        refine px_iconst (v := 0) dX12_isWord_148 (by decide) ?_
                        refine px_iretZ dX12_isWord_149 rfl (by first | rfl | decide) ?_
                        exact ⟨by first | (simp [bI, isWb, *]; done) | (simp [bI, isWb, *]; omega), rfl⟩
                      · skip
                        rw [g14] at H141
                        refine px_iconst (v := 1) dX12_isWord_144 (by decide) ?_
                        refine px_goto (tgt := 149) dX12_isWord_145 (by decide) ?_
                        refine px_iretZ dX12_isWord_149 rfl (by first | rfl | decide) ?_
                        exact ⟨by first | (simp [bI, isWb, *]; done) | (simp [bI, isWb, *]; omega), rfl⟩
              · skip
                rw [lw_4 hn] at H80
                refine px_aload_n dX12_isWord_83 rfl rfl ?_
                refine mx_getA (k := 14) (j := 11) dX12_isWord_84 gX12_44 (fun _ => rfl) ?_
                refine px_aload_n dX12_isWord_87 rfl rfl ?_
                refine mx_getI (k := 24) dX12_isWord_88 gX12_155 (fun _ => rfl) ?_
                refine px_iconst (v := 3) dX12_isWord_91 (by decide) ?_
                refine px_iadd dX12_isWord_92 ?_
                refine mx_bald (j := 11) (k := 14) (a + 3) dX12_isWord_93 rfl (show nI a + nI 3 = nI (a + 3) from nI_add ..) (by omega) (by decide) ?_
                refine px_iload dX12_isWord_94 rfl ?_
                refine px_icmp_ne (tgt := 148) dX12_isWord_96 (by decide) (fun H96 => ?_) (fun H96 => ?_)
                · skip
                  rw [g14] at H96
                  refine px_iconst (v := 0) dX12_isWord_148 (by decide) ?_
                  refine px_iretZ dX12_isWord_149 rfl (by first | rfl | decide) ?_
                  exact ⟨by first | (simp [bI, isWb, *]; done) | (simp [bI, isWb, *]; omega), rfl⟩
                · skip
                  rw [g14] at H96
                  refine px_iload dX12_isWord_99 rfl ?_
                  refine px_iconst (v := 5) dX12_isWord_101 (by decide) ?_
                  refine px_icmp_lt (tgt := 121) dX12_isWord_102 (by decide) (fun H102 => ?_) (fun H102 => ?_)
                  · skip
                    rw [lw_5 hn] at H102
                    refine px_iload dX12_isWord_121 rfl ?_
                    refine px_bipush (v := 6) dX12_isWord_123 (by decide) ?_
                    refine px_icmp_lt (tgt := 144) dX12_isWord_125 (by decide) (fun H125 => ?_) (fun H125 => ?_)
                    · skip
                      rw [lw_6 hn] at H125
                      refine px_iconst (v := 1) dX12_isWord_144 (by decide) ?_
                      refine px_goto (tgt := 149) dX12_isWord_145 (by decide) ?_
                      refine px_iretZ dX12_isWord_149 rfl (by first | rfl | decide) ?_
                      exact ⟨by first | (simp [bI, isWb, *]; done) | (simp [bI, isWb, *]; omega), rfl⟩
                    · skip
                      rw [lw_6 hn] at H125
                      refine px_aload_n dX12_isWord_128 rfl rfl ?_
                      refine mx_getA (k := 14) (j := 11) dX12_isWord_129 gX12_44 (fun _ => rfl) ?_
                      refine px_aload_n dX12_isWord_132 rfl rfl ?_
                      refine mx_getI (k := 24) dX12_isWord_133 gX12_155 (fun _ => rfl) ?_
                      refine px_iconst (v := 5) dX12_isWord_136 (by decide) ?_
                      refine px_iadd dX12_isWord_137 ?_
                      refine mx_bald (j := 11) (k := 14) (a + 5) dX12_isWord_138 rfl (show nI a + nI 5 = nI (a + 5) from nI_add ..) (by omega) (by decide) ?_
                      refine px_iload dX12_isWord_139 rfl ?_
                      refine px_icmp_ne (tgt := 148) dX12_isWord_141 (by decide) (fun H141 => ?_) (fun H141 => ?_)
                      · skip
                        rw [g14] at H141
                        refine px_iconst (v := 0) dX12_isWord_148 (by decide) ?_
                        refine px_iretZ dX12_isWord_149 rfl (by first | rfl | decide) ?_
                        exact ⟨by first | (simp [bI, isWb, *]; done) | (simp [bI, isWb, *]; omega), rfl⟩
                      · skip
                        rw [g14] at H141
                        refine px_iconst (v := 1) dX12_isWord_144 (by decide) ?_
                        refine px_goto (tgt := 149) dX12_isWord_145 (by decide) ?_
                        refine px_iretZ dX12_isWord_149 rfl (by first | rfl | decide) ?_
                        exact ⟨by first | (simp [bI, isWb, *]; done) | (simp [bI, isWb, *]; omega), rfl⟩
                  · skip
                    rw [lw_5 hn] at H102
                    refine px_aload_n dX12_isWord_105 rfl rfl ?_
                    refine mx_getA (k := 14) (j := 11) dX12_isWord_106 gX12_44 (fun _ => rfl) ?_
                    refine px_aload_n dX12_isWord_109 rfl rfl ?_
                    refine mx_getI (k := 24) dX12_isWord_110 gX12_155 (fun _ => rfl) ?_
                    refine px_iconst (v := 4) dX12_isWord_113 (by decide) ?_
                    refine px_iadd dX12_isWord_114 ?_
                    refine mx_bald (j := 11) (k := 14) (a + 4) dX12_isWord_115 rfl (show nI a + nI 4 = nI (a + 4) from nI_add ..) (by omega) (by decide) ?_
                    refine px_iload dX12_isWord_116 rfl ?_
                    refine px_icmp_ne (tgt := 148) dX12_isWord_118 (by decide) (fun H118 => ?_) (fun H118 => ?_)
                    · skip
                      rw [g14] at H118
                      refine px_iconst (v := 0) dX12_isWord_148 (by decide) ?_
                      refine px_iretZ dX12_isWord_149 rfl (by first | rfl | decide) ?_
                      exact ⟨by first | (simp [bI, isWb, *]; done) | (simp [bI, isWb, *]; omega), rfl⟩
                    · skip
                      rw [g14] at H118
                      refine px_iload dX12_isWord_121 rfl ?_
                      refine px_bipush (v := 6) dX12_isWord_123 (by decide) ?_
                      refine px_icmp_lt (tgt := 144) dX12_isWord_125 (by decide) (fun H125 => ?_) (fun H125 => ?_)
                      · skip
                        rw [lw_6 hn] at H125
                        refine px_iconst (v := 1) dX12_isWord_144 (by decide) ?_
                        refine px_goto (tgt := 149) dX12_isWord_145 (by decide) ?_
                        refine px_iretZ dX12_isWord_149 rfl (by first | rfl | decide) ?_
                        exact ⟨by first | (simp [bI, isWb, *]; done) | (simp [bI, isWb, *]; omega), rfl⟩
                      · skip
                        rw [lw_6 hn] at H125
                        refine px_aload_n dX12_isWord_128 rfl rfl ?_
                        refine mx_getA (k := 14) (j := 11) dX12_isWord_129 gX12_44 (fun _ => rfl) ?_
                        refine px_aload_n dX12_isWord_132 rfl rfl ?_
                        refine mx_getI (k := 24) dX12_isWord_133 gX12_155 (fun _ => rfl) ?_
                        refine px_iconst (v := 5) dX12_isWord_136 (by decide) ?_
                        refine px_iadd dX12_isWord_137 ?_
                        refine mx_bald (j := 11) (k := 14) (a + 5) dX12_isWord_138 rfl (show nI a + nI 5 = nI (a + 5) from nI_add ..) (by omega) (by decide) ?_
                        refine px_iload dX12_isWord_139 rfl ?_
                        refine px_icmp_ne (tgt := 148) dX12_isWord_141 (by decide) (fun H141 => ?_) (fun H141 => ?_)
                        · skip
                          rw [g14] at H141
                          refine px_iconst (v := 0) dX12_isWord_148 (by decide) ?_
                          refine px_iretZ dX12_isWord_149 rfl (by first | rfl | decide) ?_
                          exact ⟨by first | (simp [bI, isWb, *]; done) | (simp [bI, isWb, *]; omega), rfl⟩
                        · skip
                          rw [g14] at H141
                          refine px_iconst (v := 1) dX12_isWord_144 (by decide) ?_
                          refine px_goto (tgt := 149) dX12_isWord_145 (by decide) ?_
                          refine px_iretZ dX12_isWord_149 rfl (by first | rfl | decide) ?_
                          exact ⟨by first | (simp [bI, isWb, *]; done) | (simp [bI, isWb, *]; omega), rfl⟩
            · skip
              rw [lw_3 hn] at H59
              refine px_aload_n dX12_isWord_62 rfl rfl ?_
              refine mx_getA (k := 14) (j := 11) dX12_isWord_63 gX12_44 (fun _ => rfl) ?_
              refine px_aload_n dX12_isWord_66 rfl rfl ?_
              refine mx_getI (k := 24) dX12_isWord_67 gX12_155 (fun _ => rfl) ?_
              refine px_iconst (v := 2) dX12_isWord_70 (by decide) ?_
              refine px_iadd dX12_isWord_71 ?_
              refine mx_bald (j := 11) (k := 14) (a + 2) dX12_isWord_72 rfl (show nI a + nI 2 = nI (a + 2) from nI_add ..) (by omega) (by decide) ?_
              refine px_iload_n dX12_isWord_73 rfl rfl ?_
              refine px_icmp_ne (tgt := 148) dX12_isWord_74 (by decide) (fun H74 => ?_) (fun H74 => ?_)
              · skip
                rw [g14] at H74
                refine px_iconst (v := 0) dX12_isWord_148 (by decide) ?_
                refine px_iretZ dX12_isWord_149 rfl (by first | rfl | decide) ?_
                exact ⟨by first | (simp [bI, isWb, *]; done) | (simp [bI, isWb, *]; omega), rfl⟩
              · skip
                rw [g14] at H74
                refine px_iload dX12_isWord_77 rfl ?_
                refine px_iconst (v := 4) dX12_isWord_79 (by decide) ?_
                refine px_icmp_lt (tgt := 99) dX12_isWord_80 (by decide) (fun H80 => ?_) (fun H80 => ?_)
                · skip
                  rw [lw_4 hn] at H80
                  refine px_iload dX12_isWord_99 rfl ?_
                  refine px_iconst (v := 5) dX12_isWord_101 (by decide) ?_
                  refine px_icmp_lt (tgt := 121) dX12_isWord_102 (by decide) (fun H102 => ?_) (fun H102 => ?_)
                  · skip
                    rw [lw_5 hn] at H102
                    refine px_iload dX12_isWord_121 rfl ?_
                    refine px_bipush (v := 6) dX12_isWord_123 (by decide) ?_
                    refine px_icmp_lt (tgt := 144) dX12_isWord_125 (by decide) (fun H125 => ?_) (fun H125 => ?_)
                    · skip
                      rw [lw_6 hn] at H125
                      refine px_iconst (v := 1) dX12_isWord_144 (by decide) ?_
                      refine px_goto (tgt := 149) dX12_isWord_145 (by decide) ?_
                      refine px_iretZ dX12_isWord_149 rfl (by first | rfl | decide) ?_
                      exact ⟨by first | (simp [bI, isWb, *]; done) | (simp [bI, isWb, *]; omega), rfl⟩
                    · skip
                      rw [lw_6 hn] at H125
                      refine px_aload_n dX12_isWord_128 rfl rfl ?_
                      refine mx_getA (k := 14) (j := 11) dX12_isWord_129 gX12_44 (fun _ => rfl) ?_
                      refine px_aload_n dX12_isWord_132 rfl rfl ?_
                      refine mx_getI (k := 24) dX12_isWord_133 gX12_155 (fun _ => rfl) ?_
                      refine px_iconst (v := 5) dX12_isWord_136 (by decide) ?_
                      refine px_iadd dX12_isWord_137 ?_
                      refine mx_bald (j := 11) (k := 14) (a + 5) dX12_isWord_138 rfl (show nI a + nI 5 = nI (a + 5) from nI_add ..) (by omega) (by decide) ?_
                      refine px_iload dX12_isWord_139 rfl ?_
                      refine px_icmp_ne (tgt := 148) dX12_isWord_141 (by decide) (fun H141 => ?_) (fun H141 => ?_)
                      · skip
                        rw [g14] at H141
                        refine px_iconst (v := 0) dX12_isWord_148 (by decide) ?_
                        refine px_iretZ dX12_isWord_149 rfl (by first | rfl | decide) ?_
                        exact ⟨by first | (simp [bI, isWb, *]; done) | (simp [bI, isWb, *]; omega), rfl⟩
                      · skip
                        rw [g14] at H141
                        refine px_iconst (v := 1) dX12_isWord_144 (by decide) ?_
                        refine px_goto (tgt := 149) dX12_isWord_145 (by decide) ?_
                        refine px_iretZ dX12_isWord_149 rfl (by first | rfl | decide) ?_
                        exact ⟨by first | (simp [bI, isWb, *]; done) | (simp [bI, isWb, *]; omega), rfl⟩
                  · skip
                    rw [lw_5 hn] at H102
                    refine px_aload_n dX12_isWord_105 rfl rfl ?_
                    refine mx_getA (k := 14) (j := 11) dX12_isWord_106 gX12_44 (fun _ => rfl) ?_
                    refine px_aload_n dX12_isWord_109 rfl rfl ?_
                    refine mx_getI (k := 24) dX12_isWord_110 gX12_155 (fun _ => rfl) ?_
                    refine px_iconst (v := 4) dX12_isWord_113 (by decide) ?_
                    refine px_iadd dX12_isWord_114 ?_
                    refine mx_bald (j := 11) (k := 14) (a + 4) dX12_isWord_115 rfl (show nI a + nI 4 = nI (a + 4) from nI_add ..) (by omega) (by decide) ?_
                    refine px_iload dX12_isWord_116 rfl ?_
                    refine px_icmp_ne (tgt := 148) dX12_isWord_118 (by decide) (fun H118 => ?_) (fun H118 => ?_)
                    · skip
                      rw [g14] at H118
                      refine px_iconst (v := 0) dX12_isWord_148 (by decide) ?_
                      refine px_iretZ dX12_isWord_149 rfl (by first | rfl | decide) ?_
                      exact ⟨by first | (simp [bI, isWb, *]; done) | (simp [bI, isWb, *]; omega), rfl⟩
                    · skip
                      rw [g14] at H118
                      refine px_iload dX12_isWord_121 rfl ?_
                      refine px_bipush (v := 6) dX12_isWord_123 (by decide) ?_
                      refine px_icmp_lt (tgt := 144) dX12_isWord_125 (by decide) (fun H125 => ?_) (fun H125 => ?_)
                      · skip
                        rw [lw_6 hn] at H125
                        refine px_iconst (v := 1) dX12_isWord_144 (by decide) ?_
                        refine px_goto (tgt := 149) dX12_isWord_145 (by decide) ?_
                        refine px_iretZ dX12_isWord_149 rfl (by first | rfl | decide) ?_
                        exact ⟨by first | (simp [bI, isWb, *]; done) | (simp [bI, isWb, *]; omega), rfl⟩
                      · skip
                        rw [lw_6 hn] at H125
                        refine px_aload_n dX12_isWord_128 rfl rfl ?_
                        refine mx_getA (k := 14) (j := 11) dX12_isWord_129 gX12_44 (fun _ => rfl) ?_
                        refine px_aload_n dX12_isWord_132 rfl rfl ?_
                        refine mx_getI (k := 24) dX12_isWord_133 gX12_155 (fun _ => rfl) ?_
                        refine px_iconst (v := 5) dX12_isWord_136 (by decide) ?_
                        refine px_iadd dX12_isWord_137 ?_
                        refine mx_bald (j := 11) (k := 14) (a + 5) dX12_isWord_138 rfl (show nI a + nI 5 = nI (a + 5) from nI_add ..) (by omega) (by decide) ?_
                        refine px_iload dX12_isWord_139 rfl ?_
                        refine px_icmp_ne (tgt := 148) dX12_isWord_141 (by decide) (fun H141 => ?_) (fun H141 => ?_)
                        · skip
                          rw [g14] at H141
                          refine px_iconst (v := 0) dX12_isWord_148 (by decide) ?_
                          refine px_iretZ dX12_isWord_149 rfl (by first | rfl | decide) ?_
                          exact ⟨by first | (simp [bI, isWb, *]; done) | (simp [bI, isWb, *]; omega), rfl⟩
                        · skip
                          rw [g14] at H141
                          refine px_iconst (v := 1) dX12_isWord_144 (by decide) ?_
                          refine px_goto (tgt := 149) dX12_isWord_145 (by decide) ?_
                          refine px_iretZ dX12_isWord_149 rfl (by first | rfl | decide) ?_
                          exact ⟨by first | (simp [bI, isWb, *]; done) | (simp [bI, isWb, *]; omega), rfl⟩
                · skip
                  rw [lw_4 hn] at H80
                  refine px_aload_n dX12_isWord_83 rfl rfl ?_
                  refine mx_getA (k := 14) (j := 11) dX12_isWord_84 gX12_44 (fun _ => rfl) ?_
                  refine px_aload_n dX12_isWord_87 rfl rfl ?_
                  refine mx_getI (k := 24) dX12_isWord_88 gX12_155 (fun _ => rfl) ?_
                  refine px_iconst (v := 3) dX12_isWord_91 (by decide) ?_
                  refine px_iadd dX12_isWord_92 ?_
                  refine mx_bald (j := 11) (k := 14) (a + 3) dX12_isWord_93 rfl (show nI a + nI 3 = nI (a + 3) from nI_add ..) (by omega) (by decide) ?_
                  refine px_iload dX12_isWord_94 rfl ?_
                  refine px_icmp_ne (tgt := 148) dX12_isWord_96 (by decide) (fun H96 => ?_) (fun H96 => ?_)
                  · skip
                    rw [g14] at H96
                    refine px_iconst (v := 0) dX12_isWord_148 (by decide) ?_
                    refine px_iretZ dX12_isWord_149 rfl (by first | rfl | decide) ?_
                    exact ⟨by first | (simp [bI, isWb, *]; done) | (simp [bI, isWb, *]; omega), rfl⟩
                  · skip
                    rw [g14] at H96
                    refine px_iload dX12_isWord_99 rfl ?_
                    refine px_iconst (v := 5) dX12_isWord_101 (by decide) ?_
                    refine px_icmp_lt (tgt := 121) dX12_isWord_102 (by decide) (fun H102 => ?_) (fun H102 => ?_)
                    · skip
                      rw [lw_5 hn] at H102
                      refine px_iload dX12_isWord_121 rfl ?_
                      refine px_bipush (v := 6) dX12_isWord_123 (by decide) ?_
                      refine px_icmp_lt (tgt := 144) dX12_isWord_125 (by decide) (fun H125 => ?_) (fun H125 => ?_)
                      · skip
                        rw [lw_6 hn] at H125
                        refine px_iconst (v := 1) dX12_isWord_144 (by decide) ?_
                        refine px_goto (tgt := 149) dX12_isWord_145 (by decide) ?_
                        refine px_iretZ dX12_isWord_149 rfl (by first | rfl | decide) ?_
                        exact ⟨by first | (simp [bI, isWb, *]; done) | (simp [bI, isWb, *]; omega), rfl⟩
                      · skip
                        rw [lw_6 hn] at H125
                        refine px_aload_n dX12_isWord_128 rfl rfl ?_
                        refine mx_getA (k := 14) (j := 11) dX12_isWord_129 gX12_44 (fun _ => rfl) ?_
                        refine px_aload_n dX12_isWord_132 rfl rfl ?_
                        refine mx_getI (k := 24) dX12_isWord_133 gX12_155 (fun _ => rfl) ?_
                        refine px_iconst (v := 5) dX12_isWord_136 (by decide) ?_
                        refine px_iadd dX12_isWord_137 ?_
                        refine mx_bald (j := 11) (k := 14) (a + 5) dX12_isWord_138 rfl (show nI a + nI 5 = nI (a + 5) from nI_add ..) (by omega) (by decide) ?_
                        refine px_iload dX12_isWord_139 rfl ?_
                        refine px_icmp_ne (tgt := 148) dX12_isWord_141 (by decide) (fun H141 => ?_) (fun H141 => ?_)
                        · skip
                          rw [g14] at H141
                          refine px_iconst (v := 0) dX12_isWord_148 (by decide) ?_
                          refine px_iretZ dX12_isWord_149 rfl (by first | rfl | decide) ?_
                          exact ⟨by first | (simp [bI, isWb, *]; done) | (simp [bI, isWb, *]; omega), rfl⟩
                        · skip
                          rw [g14] at H141
                          refine px_iconst (v := 1) dX12_isWord_144 (by decide) ?_
                          refine px_goto (tgt := 149) dX12_isWord_145 (by decide) ?_
                          refine px_iretZ dX12_isWord_149 rfl (by first | rfl | decide) ?_
                          exact ⟨by first | (simp [bI, isWb, *]; done) | (simp [bI, isWb, *]; omega), rfl⟩
                    · skip
                      rw [lw_5 hn] at H102
                      refine px_aload_n dX12_isWord_105 rfl rfl ?_
                      refine mx_getA (k := 14) (j := 11) dX12_isWord_106 gX12_44 (fun _ => rfl) ?_
                      refine px_aload_n dX12_isWord_109 rfl rfl ?_
                      refine mx_getI (k := 24) dX12_isWord_110 gX12_155 (fun _ => rfl) ?_
                      refine px_iconst (v := 4) dX12_isWord_113 (by decide) ?_
                      refine px_iadd dX12_isWord_114 ?_
                      refine mx_bald (j := 11) (k := 14) (a + 4) dX12_isWord_115 rfl (show nI a + nI 4 = nI (a + 4) from nI_add ..) (by omega) (by decide) ?_
                      refine px_iload dX12_isWord_116 rfl ?_
                      refine px_icmp_ne (tgt := 148) dX12_isWord_118 (by decide) (fun H118 => ?_) (fun H118 => ?_)
                      · skip
                        rw [g14] at H118
                        refine px_iconst (v := 0) dX12_isWord_148 (by decide) ?_
                        refine px_iretZ dX12_isWord_149 rfl (by first | rfl | decide) ?_
                        exact ⟨by first | (simp [bI, isWb, *]; done) | (simp [bI, isWb, *]; omega), rfl⟩
                      · skip
                        rw [g14] at H118
                        refine px_iload dX12_isWord_121 rfl ?_
                        refine px_bipush (v := 6) dX12_isWord_123 (by decide) ?_
                        refine px_icmp_lt (tgt := 144) dX12_isWord_125 (by decide) (fun H125 => ?_) (fun H125 => ?_)
                        · skip
                          rw [lw_6 hn] at H125
                          refine px_iconst (v := 1) dX12_isWord_144 (by decide) ?_
                          refine px_goto (tgt := 149) dX12_isWord_145 (by decide) ?_
                          refine px_iretZ dX12_isWord_149 rfl (by first | rfl | decide) ?_
                          exact ⟨by first | (simp [bI, isWb, *]; done) | (simp [bI, isWb, *]; omega), rfl⟩
                        · skip
                          rw [lw_6 hn] at H125
                          refine px_aload_n dX12_isWord_128 rfl rfl ?_
                          refine mx_getA (k := 14) (j := 11) dX12_isWord_129 gX12_44 (fun _ => rfl) ?_
                          refine px_aload_n dX12_isWord_132 rfl rfl ?_
                          refine mx_getI (k := 24) dX12_isWord_133 gX12_155 (fun _ => rfl) ?_
                          refine px_iconst (v := 5) dX12_isWord_136 (by decide) ?_
                          refine px_iadd dX12_isWord_137 ?_
                          refine mx_bald (j := 11) (k := 14) (a + 5) dX12_isWord_138 rfl (show nI a + nI 5 = nI (a + 5) from nI_add ..) (by omega) (by decide) ?_
                          refine px_iload dX12_isWord_139 rfl ?_
                          refine px_icmp_ne (tgt := 148) dX12_isWord_141 (by decide) (fun H141 => ?_) (fun H141 => ?_)
                          · skip
                            rw [g14] at H141
                            refine px_iconst (v := 0) dX12_isWord_148 (by decide) ?_
                            refine px_iretZ dX12_isWord_149 rfl (by first | rfl | decide) ?_
                            exact ⟨by first | (simp [bI, isWb, *]; done) | (simp [bI, isWb, *]; omega), rfl⟩
                          · skip
                            rw [g14] at H141
                            refine px_iconst (v := 1) dX12_isWord_144 (by decide) ?_
                            refine px_goto (tgt := 149) dX12_isWord_145 (by decide) ?_
                            refine px_iretZ dX12_isWord_149 rfl (by first | rfl | decide) ?_
                            exact ⟨by first | (simp [bI, isWb, *]; done) | (simp [bI, isWb, *]; omega), rfl⟩
  · skip
    rw [g25, g24, sub_n hab hb hn] at H11
    refine px_iconst (v := 0) dX12_isWord_14 (by decide) ?_
    refine px_iretZ dX12_isWord_15 rfl (by first | rfl | decide) ?_
    exact ⟨by first | (simp [bI, isWb, *]; done) | (simp [bI, isWb, *]; omega), rfl⟩
