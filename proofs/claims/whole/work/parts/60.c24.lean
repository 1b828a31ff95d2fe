/-! THE PURE READER: what its tokens are, what its steps do -/
def WK (z : PZ) : Prop := (zS z = 1 → ∃ j, j < 16 ∧ zV z = nI j ∧ (j < 6 ∨ 10 ≤ j)) ∧ (zS z = 2 → ∃ v, v ≤ 9999 ∧ zV z = nI v) ∧ (zS z = 3 → isSg (zV z) = true) ∧ zS z ≤ 5
theorem rn_all {Pr : Nat → Bool} {t : Nat} : ∀ (n a : Nat), t - a ≤ n → ∀ i, a ≤ i → i < rn Pr t a → Pr i = true := by
  intro n
  induction n with
  | zero => intro a h1 i h2 h3; rw [rn_end (by omega)] at h3; omega
  | succ n ih =>
    intro a h1 i h2 h3
    rcases Nat.lt_or_ge a t with q | q
    · by_cases hp : Pr a = true
      · rw [rn_go q hp] at h3
        by_cases e : i = a
        · rw [e]; exact hp
        · exact ih (a + 1) (by omega) i (by omega) h3
      · rw [rn_no hp] at h3; omega
    · rw [rn_end q] at h3; omega
theorem dgt_n {tp : Nat → Int32} {i : Nat} (h : dgt tp i = true) : ∃ c, 48 ≤ c ∧ c ≤ 57 ∧ tp i = nI c := by
  have h := decide_eq_true_iff.mp h
  rw [mIn_0] at h
  have h1 : ¬ tp i < 48 := fun q => h (Or.inl q)
  have h2 : ¬ 57 < tp i := fun q => h (Or.inr q)
  rw [i_lt, show (48 : Int32).toInt = 48 from rfl] at h1
  rw [i_lt, show (57 : Int32).toInt = 57 from rfl] at h2
  exact ⟨(tp i).toInt.toNat, by omega, by omega, by rw [i_eq, nI_toInt (by omega)]; omega⟩
theorem nv_n {tp : Nat → Int32} {a : Nat} : ∀ k, k ≤ 4 → (∀ i, i < k → dgt tp (a + i) = true) → ∃ v, v < 10 ^ k ∧ nv tp a k = nI v := by
  intro k
  induction k with
  | zero => intro _ _; exact ⟨0, by decide, rfl⟩
  | succ k ih =>
    intro hk hd
    obtain ⟨v, h1, h2⟩ := ih (by omega) (fun i hi => hd i (by omega))
    obtain ⟨c, h3, h4, h5⟩ := dgt_n (hd k (by omega))
    have h6 : v < 10000 := Nat.lt_of_lt_of_le h1 (Nat.pow_le_pow_right (by decide) (show k ≤ 4 by omega))
    refine ⟨10 * v + c - 48, by rw [Nat.pow_succ]; omega, ?_⟩
    rw [nv_1 (by omega), h2, h5, show (10 : Int32) = nI 10 from rfl, pk_mul, nI_add, show (48 : Int32) = nI 48 from rfl, pk_sub (by omega)]
theorem zN_k {tp : Nat → Int32} {t : Nat} {z : PZ} : WK (zN tp t z) := by
  have eS : zS (zN tp t z) = lxS tp t (zB z) := rfl
  have eV : zV (zN tp t z) = lxV tp t (zB z) (zV z) := rfl
  unfold WK
  rw [eS, eV]
  unfold lxS lxV
  by_cases q : lxA tp t (zB z) < t
  · rw [if_pos q, if_pos q]
    by_cases ql : ltr tp (lxA tp t (zB z)) = true
    · rw [if_pos ql, if_pos ql]
      rcases wN_ge tp (lxA tp t (zB z)) (rn (ltr tp) t (lxA tp t (zB z))) with h | ⟨j, h1, h2, h3, h4⟩
      · rw [h, if_pos (by decide)]
        exact ⟨fun e => absurd e (by decide), fun e => absurd e (by decide), fun e => absurd e (by decide), by decide⟩
      · rw [h2, if_neg (nI_nn (by omega))]
        exact ⟨fun _ => ⟨j, h1, rfl, h3⟩, fun e => absurd e (by decide), fun e => absurd e (by decide), by decide⟩
    · rw [if_neg ql, if_neg ql]
      by_cases qd : dgt tp (lxA tp t (zB z)) = true
      · rw [if_pos qd, if_pos qd]
        by_cases q4 : 4 < rn (dgt tp) t (lxA tp t (zB z)) - lxA tp t (zB z)
        · rw [if_pos q4]
          exact ⟨fun e => absurd e (by decide), fun e => absurd e (by decide), fun e => absurd e (by decide), by decide⟩
        · rw [if_neg q4]
          refine ⟨fun e => absurd e (by decide), fun _ => ?_, fun e => absurd e (by decide), by decide⟩
          obtain ⟨v, h1, h2⟩ := nv_n (tp := tp) (a := lxA tp t (zB z)) (rn (dgt tp) t (lxA tp t (zB z)) - lxA tp t (zB z)) (by omega) (fun i hi => rn_all (t - lxA tp t (zB z)) (lxA tp t (zB z)) (Nat.le_refl _) (lxA tp t (zB z) + i) (by omega) (by omega))
          have h6 : v < 10000 := Nat.lt_of_lt_of_le h1 (Nat.pow_le_pow_right (by decide) (show rn (dgt tp) t (lxA tp t (zB z)) - lxA tp t (zB z) ≤ 4 by omega))
          exact ⟨v, by omega, h2⟩
      · rw [if_neg qd, if_neg qd]
        by_cases qs : isSg (tp (lxA tp t (zB z))) = true
        · rw [if_pos qs]
          exact ⟨fun e => absurd e (by decide), fun e => absurd e (by decide), fun _ => qs, by decide⟩
        · rw [if_neg qs]
          exact ⟨fun e => absurd e (by decide), fun e => absurd e (by decide), fun e => absurd e (by decide), by decide⟩
  · rw [if_neg q, if_neg q]
    exact ⟨fun e => absurd e (by decide), fun e => absurd e (by decide), fun e => absurd e (by decide), by decide⟩
/-- these steps lay one number more -/
def WE (L : List (Int32 × Int32)) : Prop := ∀ (n : Nat) (M : List (Int32 × Int32)), wf M (n + 1) → wf (L ++ M) n
def two (a : Int32) : Prop := a = 5 ∨ a = 6 ∨ a = 42 ∨ a = 43 ∨ a = 45 ∨ a = 60 ∨ a = 61
theorem WE.nil {L : List (Int32 × Int32)} (h : WE L) : wf L 0 := by
  have := h 0 [] rfl
  rwa [List.append_nil] at this
theorem WE_1 {v : Int32} : WE [(1, v)] := fun n M h => by
  show wf ((1, v) :: M) n
  rw [wf, if_pos rfl]
  exact h
theorem WE_2 {v : Int32} (hv : ∃ j, j < 6 ∧ v = nI j) : WE [(2, v)] := fun n M h => by
  show wf ((2, v) :: M) n
  rw [wf, if_neg (show ¬ (2 : Int32) = 1 by decide), if_pos rfl]
  exact ⟨hv, h⟩
theorem WE.one {L : List (Int32 × Int32)} {c : Int32 × Int32} (h : WE L) (hc : c.1 = 3 ∨ c.1 = 4) : WE (L ++ [c]) := fun n M hM => by
  rw [List.append_assoc]
  refine h n _ ?_
  show wf (c :: M) (n + 1)
  rw [wf]
  rcases hc with e | e <;> rw [e] <;> simp <;> exact hM
theorem WE.two {L1 L2 : List (Int32 × Int32)} {c : Int32 × Int32} (h1 : WE L1) (h2 : WE L2) (hc : two c.1) : WE (L1 ++ (L2 ++ [c])) := fun n M hM => by
  rw [List.append_assoc, List.append_assoc]
  refine h1 n _ (h2 (n + 1) _ ?_)
  show wf (c :: M) (n + 1 + 1)
  rw [wf]
  rcases hc with e | e | e | e | e | e | e <;> rw [e] <;> simp <;> exact hM
/-- z is behind z0: sound steps for one number more -/
def YP (z0 z : PZ) : Prop := zF z < 0 → ∃ L, zL z = zL z0 ++ L ∧ WE L ∧ ∀ c ∈ L, aok c
def YO (t n : Nat) (F : PZ → PZ) : Prop := ∀ z, Zi t z → (zF z < 0 → 6 ≤ zO z + n) → WK z → WK (F z) ∧ YP z (F z)
theorem aok_two {a w : Int32} (h : two a) : aok (a, w) := by
  unfold aok
  rcases h with e | e | e | e | e | e | e <;> subst e <;> simp
theorem loop_y {tp : Nat → Int32} {t n : Nat} {F : PZ → PZ} {c : PZ → Bool} {op : PZ → Int32} (hF : FOK t n F) (hY : YO t n F) (hc : ∀ z, c z = true → (zS z = 1 ∨ zS z = 2 ∨ zS z = 3) ∧ two (op z)) : ∀ (k : Nat) (z0 z : PZ), Zi t z → (zF z < 0 → 6 ≤ zO z + n) → WK z → YP z0 z → WK (whl k c (fun z => zAd (F (zN tp t z)) (op z, 0)) z) ∧ YP z0 (whl k c (fun z => zAd (F (zN tp t z)) (op z, 0)) z)
  | 0, _, _, _, _, hk, hy => ⟨hk, hy⟩
  | k + 1, z0, z, hz, hn, hk, hy => by
    rw [whl]
    by_cases q : c z = true
    · rw [if_pos q]
      obtain ⟨hs, h2⟩ := hc z q
      obtain ⟨q1, q2, q3, q4⟩ := turn_g (tp := tp) (c := (op z, 0)) hF hz hn hs
      have ht := hY (zN tp t z) (zN_i hz) hn zN_k
      refine loop_y hF hY hc k z0 _ q3.1 (q3.n hn) ht.1 (fun q5 => ?_)
      have hzf : zF z < 0 := (q3.2.2.2.2 q5).1
      obtain ⟨L1, a1, a2, a3⟩ := hy hzf
      obtain ⟨L2, b1, b2, b3⟩ := ht.2 q5
      refine ⟨L1 ++ (L2 ++ [(op z, 0)]), ?_, a2.two b2 h2, fun x hx => ?_⟩
      · show zL (F (zN tp t z)) ++ [_] = _
        rw [b1, show zL (zN tp t z) = zL z from rfl, a1, List.append_assoc, List.append_assoc]
      · rcases List.mem_append.mp hx with hx | hx
        · exact a3 x hx
        · rcases List.mem_append.mp hx with hx | hx
          · exact b3 x hx
          · rw [List.mem_singleton] at hx
            subst hx
            exact aok_two h2
    · rw [if_neg q]
      exact ⟨hk, hy⟩
theorem zTerm_y {tp : Nat → Int32} {t n : Nat} {F : PZ → PZ} (hF : FOK t n F) (hY : YO t n F) : YO t n (zTerm tp t F) := fun z hz hn hk => by
  have h1 := hF z hz hn
  have h2 := hY z hz hn hk
  exact loop_y (op := fun _ => 42) hF hY (fun z hc => ⟨Or.inr (Or.inr (sg_y hc).2.1), by unfold two; decide⟩) 161 z _ h1.1 (h1.n hn) h2.1 h2.2
theorem zSum_y {tp : Nat → Int32} {t n : Nat} {F : PZ → PZ} (hF : FOK t n F) (hY : YO t n F) : YO t n (zSum tp t F) := fun z hz hn hk => by
  have hF' := zTerm_g (tp := tp) hF
  have hY' := zTerm_y (tp := tp) hF hY
  have h1 := hF' z hz hn
  have h2 := hY' z hz hn hk
  refine loop_y (op := fun z => zV z) hF' hY' (fun z hc => ⟨Or.inr (Or.inr (or_sg hc).2), ?_⟩) 161 z _ h1.1 (h1.n hn) h2.1 h2.2
  rcases (Bool.or_eq_true _ _).mp hc with q | q
  · show two (zV z)
    rw [(sg_y q).2.2]; unfold two; decide
  · show two (zV z)
    rw [(sg_y q).2.2]; unfold two; decide
theorem zAll_y {tp : Nat → Int32} {t n : Nat} {F : PZ → PZ} (hF : FOK t n F) (hY : YO t n F) : YO t n (zAll tp t F) := fun z hz hn hk => by
  have h1 := hF z hz hn
  have h2 := hY z hz hn hk
  exact loop_y (op := fun _ => 6) hF hY (fun z hc => ⟨Or.inl (ky_y hc).2.1, by unfold two; decide⟩) 161 z _ h1.1 (h1.n hn) h2.1 h2.2
theorem zEi_y {tp : Nat → Int32} {t n : Nat} {F : PZ → PZ} (hF : FOK t n F) (hY : YO t n F) : YO t n (zEi tp t F) := fun z hz hn hk => by
  have hF' := zAll_g (tp := tp) hF
  have hY' := zAll_y (tp := tp) hF hY
  have h1 := hF' z hz hn
  have h2 := hY' z hz hn hk
  exact loop_y (op := fun _ => 5) hF' hY' (fun z hc => ⟨Or.inl (ky_y hc).2.1, by unfold two; decide⟩) 161 z _ h1.1 (h1.n hn) h2.1 h2.2
theorem zW_y {t : Nat} {z0 z : PZ} (hz : Zi t z) (hk : WK z) : WK (zW z) ∧ YP z0 (zW z) := ⟨hk, fun q => absurd q (zW_f hz)⟩
theorem zOne1_y {tp : Nat → Int32} {t n : Nat} {o1 ei : PZ → PZ} (h1 : FOK t n o1) (h2 : FOK t n ei) (y1 : YO t n o1) (y2 : YO t n ei) : YO t (n + 1) (zOne1 tp t o1 ei) := fun z hz hn hk => by
  unfold zOne1
  by_cases hf : zF z < 0
  · rw [if_neg (not_not_intro hf)]
    by_cases e1 : zS z = 2
    · rw [if_pos e1]
      obtain ⟨v, hv1, hv2⟩ := hk.2.1 e1
      refine ⟨zN_k, fun _ => ⟨[(1, zV z)], rfl, WE_1, fun c hc => ?_⟩⟩
      rw [List.mem_singleton] at hc
      subst hc
      exact Or.inl ⟨rfl, by show ¬ zV z < 0; rw [hv2]; exact nI_nneg (by omega)⟩
    rw [if_neg e1]
    by_cases e2 : zS z = 1 ∧ zV z < 6
    · rw [if_pos e2]
      obtain ⟨j, j1, j2, j3⟩ := hk.1 e2.1
      have j6 : j < 6 := by
        have := e2.2
        rw [j2] at this
        exact (nI_ltI (b := 6) (by omega) (by omega)).mp this
      refine ⟨zN_k, fun _ => ⟨[(2, zV z)], rfl, WE_2 ⟨j, j6, j2⟩, fun c hc => ?_⟩⟩
      rw [List.mem_singleton] at hc
      subst hc
      exact Or.inr (Or.inl ⟨rfl, j, j6, j2⟩)
    rw [if_neg e2]
    by_cases e3 : zSg z 45 = true
    · rw [if_pos e3]
      by_cases e4 : zO z = 5
      · rw [if_pos e4]; exact zW_y hz hk
      · rw [if_neg e4]
        obtain ⟨a1, a2, q1, q2, q3, q4, q5, q6, q7⟩ := opn_g (tp := tp) h1 hz hf (hn hf) (Or.inr (Or.inr (sg_y e3).2.1)) e4
        have hy := y1 _ a1 a2 zN_k
        refine ⟨hy.1, fun q => ?_⟩
        obtain ⟨L, b1, b2, b3⟩ := hy.2 q
        refine ⟨L ++ [(4, 0)], ?_, b2.one (Or.inr rfl), fun c hc => ?_⟩
        · show zL (o1 (zN tp t (zI z))) ++ [_] = _
          rw [b1, List.append_assoc]
          rfl
        · rcases List.mem_append.mp hc with hc | hc
          · exact b3 c hc
          · rw [List.mem_singleton] at hc
            subst hc
            exact Or.inr (Or.inr (Or.inr (Or.inl rfl)))
    rw [if_neg e3]
    by_cases e5 : zSg z 40 = true
    · rw [if_pos e5]
      by_cases e4 : zO z = 5
      · rw [if_pos e4]; exact zW_y hz hk
      · rw [if_neg e4]
        obtain ⟨a1, a2, q1, q2, q3, q4, q5, q6, q7⟩ := opn_g (tp := tp) h2 hz hf (hn hf) (Or.inr (Or.inr (sg_y e5).2.1)) e4
        have hy := y2 _ a1 a2 zN_k
        by_cases e6 : zSg (ei (zN tp t (zI z))) 41 = true
        · rw [if_pos e6]
          exact ⟨zN_k, fun q => hy.2 q⟩
        · rw [if_neg e6]
          exact zW_y q1 hy.1
    rw [if_neg e5]
    exact zW_y hz hk
  · rw [if_pos hf]
    exact ⟨hk, fun q => absurd q hf⟩
theorem zDen1_y {tp : Nat → Int32} {t n : Nat} {dn sm : PZ → PZ} (h1 : FOK t n dn) (h2 : FOK t (n + 1) sm) (y1 : YO t n dn) (y2 : YO t (n + 1) sm) : YO t (n + 1) (zDen1 tp t dn sm) := fun z hz hn hk => by
  unfold zDen1
  by_cases e3 : zKy z 15 = true
  · rw [if_pos e3]
    have hf := (ky_y e3).1
    by_cases e4 : zO z = 5
    · rw [if_pos e4]; exact zW_y hz hk
    · rw [if_neg e4]
      obtain ⟨a1, a2, q1, q2, q3, q4, q5, q6, q7⟩ := opn_g (tp := tp) h1 hz hf (hn hf) (Or.inl (ky_y e3).2.1) e4
      have hy := y1 _ a1 a2 zN_k
      refine ⟨hy.1, fun q => ?_⟩
      obtain ⟨L, b1, b2, b3⟩ := hy.2 q
      refine ⟨L ++ [(3, 0)], ?_, b2.one (Or.inl rfl), fun c hc => ?_⟩
      · show zL (dn (zN tp t (zI z))) ++ [_] = _
        rw [b1, List.append_assoc]
        rfl
      · rcases List.mem_append.mp hc with hc | hc
        · exact b3 c hc
        · rw [List.mem_singleton] at hc
          subst hc
          exact Or.inr (Or.inr (Or.inl rfl))
  · rw [if_neg e3]
    have g := h2 z hz hn
    have hy := y2 z hz hn hk
    by_cases e5 : zSg (sm z) 60 = true ∨ zSg (sm z) 61 = true
    · rw [if_pos e5]
      have hs : zS (sm z) = 3 ∧ two (zV (sm z)) := by
        rcases e5 with q | q
        · exact ⟨(sg_y q).2.1, by rw [(sg_y q).2.2]; unfold two; decide⟩
        · exact ⟨(sg_y q).2.1, by rw [(sg_y q).2.2]; unfold two; decide⟩
      obtain ⟨q1, q2, q3, q4⟩ := turn_g (tp := tp) (c := (zV (sm z), 0)) h2 g.1 (g.n hn) (Or.inr (Or.inr hs.1))
      have ht := y2 (zN tp t (sm z)) (zN_i g.1) (g.n hn) zN_k
      refine ⟨ht.1, fun q5 => ?_⟩
      obtain ⟨L1, a1, a2, a3⟩ := hy.2 (q3.2.2.2.2 q5).1
      obtain ⟨L2, b1, b2, b3⟩ := ht.2 q5
      refine ⟨L1 ++ (L2 ++ [(zV (sm z), 0)]), ?_, a2.two b2 hs.2, fun x hx => ?_⟩
      · show zL (sm (zN tp t (sm z))) ++ [_] = _
        rw [b1, show zL (zN tp t (sm z)) = zL (sm z) from rfl, a1, List.append_assoc, List.append_assoc]
      · rcases List.mem_append.mp hx with hx | hx
        · exact a3 x hx
        · rcases List.mem_append.mp hx with hx | hx
          · exact b3 x hx
          · rw [List.mem_singleton] at hx
            subst hx
            exact aok_two hs.2
    · rw [if_neg e5]
      exact hy
theorem zP_y (tp : Nat → Int32) (t : Nat) : ∀ n, YO t n (zP tp t n).1 ∧ YO t n (zP tp t n).2
  | 0 => ⟨fun z hz hn hk => ⟨hk, fun q => absurd (hn q) (by have := hz.2.2.2.2.2.2 q; omega)⟩, fun z hz hn hk => ⟨hk, fun q => absurd (hn q) (by have := hz.2.2.2.2.2.2 q; omega)⟩⟩
  | n + 1 => by
    have ih := zP_y tp t n
    have g := zP_g tp t n
    have g' := zP_g tp t (n + 1)
    have ho : YO t (n + 1) (zOne1 tp t (zP tp t n).1 (zEi tp t (zP tp t n).2)) := zOne1_y g.1 (zEi_g g.2) ih.1 (zEi_y g.2 ih.2)
    exact ⟨ho, zDen1_y g.2 (zSum_g g'.1) ih.2 (zSum_y g'.1 ho)⟩
/-- behind a fault nothing is read -/
def FX (F : PZ → PZ) : Prop := ∀ z, ¬ zF z < 0 → F z = z
theorem sg_f {z : PZ} {x : Int32} (h : ¬ zF z < 0) : ¬ zSg z x = true := fun q => h (sg_y q).1
theorem ky_f {z : PZ} {x : Int32} (h : ¬ zF z < 0) : ¬ zKy z x = true := fun q => h (ky_y q).1
theorem zW_x : FX zW := fun z h => by
  unfold zW
  rw [if_neg h]
  rfl
theorem whl_x {c : PZ → Bool} {g : PZ → PZ} (hc : ∀ z, ¬ zF z < 0 → ¬ c z = true) : ∀ k, FX (whl k c g)
  | 0, _, _ => rfl
  | k + 1, z, h => by rw [whl, if_neg (hc z h)]
theorem zTerm_x {tp : Nat → Int32} {t : Nat} {F : PZ → PZ} (h : FX F) : FX (zTerm tp t F) := fun z hz => by
  unfold zTerm
  rw [h z hz]
  exact whl_x (fun z h => sg_f h) 161 z hz
theorem zSum_x {tp : Nat → Int32} {t : Nat} {F : PZ → PZ} (h : FX F) : FX (zSum tp t F) := fun z hz => by
  unfold zSum
  rw [zTerm_x h z hz]
  exact whl_x (fun z h q => h (or_sg q).1) 161 z hz
theorem zAll_x {tp : Nat → Int32} {t : Nat} {F : PZ → PZ} (h : FX F) : FX (zAll tp t F) := fun z hz => by
  unfold zAll
  rw [h z hz]
  exact whl_x (fun z h => ky_f h) 161 z hz
theorem zEi_x {tp : Nat → Int32} {t : Nat} {F : PZ → PZ} (h : FX F) : FX (zEi tp t F) := fun z hz => by
  unfold zEi
  rw [zAll_x h z hz]
  exact whl_x (fun z h => ky_f h) 161 z hz
theorem zP_x (tp : Nat → Int32) (t : Nat) : ∀ n, FX (zP tp t n).1 ∧ FX (zP tp t n).2
  | 0 => ⟨fun _ _ => rfl, fun _ _ => rfl⟩
  | n + 1 => by
    have h1 : FX (zOne1 tp t (zP tp t n).1 (zEi tp t (zP tp t n).2)) := fun z hz => by unfold zOne1; rw [if_pos hz]
    refine ⟨h1, fun z hz => ?_⟩
    show zDen1 tp t _ _ z = z
    unfold zDen1
    rw [if_neg (ky_f hz), zSum_x h1 z hz, if_neg (fun q => q.elim (sg_f hz) (sg_f hz))]
theorem zE6_x {tp : Nat → Int32} {t : Nat} : FX (zE6 tp t) := zEi_x (zP_x tp t 6).2
theorem zE6_y {tp : Nat → Int32} {t : Nat} : YO t 6 (zE6 tp t) := zEi_y (zP_g tp t 6).2 (zP_y tp t 6).2
/-- three rules that were read: their steps, where each ends -/
def SND (L : List (Int32 × Int32)) : Prop := WE L ∧ ∀ c ∈ L, aok c
theorem zN_F {tp : Nat → Int32} {t : Nat} {z : PZ} : zF (zN tp t z) = zF z := rfl
theorem zN_L {tp : Nat → Int32} {t : Nat} {z : PZ} : zL (zN tp t z) = zL z := rfl
theorem zN_O {tp : Nat → Int32} {t : Nat} {z : PZ} : zO (zN tp t z) = zO z := rfl
theorem zR_y {tp : Nat → Int32} {t : Nat} {x : Int32} {z : PZ} {S : MS} {i : Nat} (hz : Zi t z) (hf : zF (zR tp t x z) < 0) : WK (zR tp t x z) ∧ zF z < 0 ∧ ∃ L, zL (zR tp t x z) = zL z ++ L ∧ SND L ∧ zRb tp t x z S i = up2 S 20 (18 + i) (nI (zL z ++ L).length) := by
  by_cases e : zKy z x = true
  · have hzf := (ky_y e).1
    have q1 : Zi t (zN tp t z) := zN_i hz
    have hlev : zF (zN tp t z) < 0 → 6 ≤ zO (zN tp t z) + 6 := fun _ => Nat.le_add_left 6 _
    have g := zE6_g (tp := tp) (t := t) (zN tp t z) q1 hlev
    have y := zE6_y (tp := tp) (t := t) (zN tp t z) q1 hlev zN_k
    by_cases e2 : zSg (zE6 tp t (zN tp t z)) 59 = true
    · have eR : zR tp t x z = zN tp t (zE6 tp t (zN tp t z)) := by rw [zR, if_pos e, if_pos e2]
      have eb : zRb tp t x z S i = up2 S 20 (18 + i) (nI (zL (zE6 tp t (zN tp t z))).length) := by rw [zRb, if_pos ⟨e, e2⟩]
      rw [eR, zN_F] at hf
      rw [eR, eb, zN_L]
      obtain ⟨L, b1, b2, b3⟩ := y.2 hf
      rw [zN_L] at b1
      rw [b1]
      exact ⟨zN_k, hzf, L, rfl, ⟨b2, b3⟩, rfl⟩
    · have eR : zR tp t x z = zW (zE6 tp t (zN tp t z)) := by rw [zR, if_pos e, if_neg e2]
      rw [eR] at hf
      exact absurd hf (zW_f g.1)
  · have eR : zR tp t x z = zW z := by rw [zR, if_neg e]
    rw [eR] at hf
    exact absurd hf (zW_f hz)
theorem tx_go {S : MS} {t : Nat} {z : PZ} {i : Nat} (h : zF (tx S t z i).2 < 0) : tx S t z (i + 1) = (zRb (S 14) t (10 + nI i) (tx S t z i).2 (tx S t z i).1 i, zR (S 14) t (10 + nI i) (tx S t z i).2) := by rw [tx, if_pos h]
theorem tx_no {S : MS} {t : Nat} {z : PZ} {i : Nat} (h : ¬ zF (tx S t z i).2 < 0) : tx S t z (i + 1) = tx S t z i := by rw [tx, if_neg h]
theorem tx_s {S : MS} {t : Nat} {z : PZ} (hz : Zi t z) (ho : zO z = 0) (i : Nat) (h : zF (tx S t z (i + 1)).2 < 0) : WK (tx S t z (i + 1)).2 ∧ zF (tx S t z i).2 < 0 ∧ ∃ L, zL (tx S t z (i + 1)).2 = zL (tx S t z i).2 ++ L ∧ SND L ∧ (tx S t z (i + 1)).1 = up2 (tx S t z i).1 20 (18 + i) (nI (zL (tx S t z (i + 1)).2).length) := by
  have g := tx_g (S := S) hz ho i
  by_cases e : zF (tx S t z i).2 < 0
  · rw [tx_go e] at h ⊢
    generalize tx S t z i = r at *
    obtain ⟨a1, a2, L, a3, a4, a5⟩ := zR_y (S := r.1) (i := i) g.1 h
    refine ⟨a1, e, L, a3, a4, ?_⟩
    show zRb _ _ _ _ _ _ = up2 _ _ _ (nI (zL (zR (S 14) t (10 + nI i) r.2)).length)
    rw [a3]
    exact a5
  · rw [tx_no e] at h
    exact absurd h e
theorem tx_y {S : MS} {t : Nat} {z : PZ} (hz : Zi t z) (ho : zO z = 0) (hL : zL z = []) (h : zF (tx S t z 3).2 < 0) : ∃ L0 L1 L2, zL (tx S t z 3).2 = L0 ++ L1 ++ L2 ∧ SND L0 ∧ SND L1 ∧ SND L2 ∧ (tx S t z 3).1 20 18 = nI L0.length ∧ (tx S t z 3).1 20 19 = nI (L0 ++ L1).length ∧ (tx S t z 3).1 20 20 = nI (L0 ++ L1 ++ L2).length := by
  obtain ⟨-, h2, L2, c1, c2, c3⟩ := tx_s hz ho 2 h
  obtain ⟨-, h1, L1, b1, b2, b3⟩ := tx_s hz ho 1 h2
  obtain ⟨-, h0, L0, a1, a2, a3⟩ := tx_s hz ho 0 h1
  rw [show (tx S t z 0).2 = z from rfl, hL, List.nil_append] at a1
  rw [show (0 : Nat) + 1 = 1 from rfl] at a1 a3
  rw [show (1 : Nat) + 1 = 2 from rfl] at b1 b3
  rw [show (2 : Nat) + 1 = 3 from rfl] at c1 c3
  rw [a1] at b1 a3
  rw [b1] at c1 b3
  rw [c1] at c3
  refine ⟨L0, L1, L2, c1, a2, b2, c2, ?_, ?_, ?_⟩
  · rw [c3, up2_eq, pk_un (by decide), b3, up2_eq, pk_un (by decide), a3, up2_eq, pk_us]
  · rw [c3, up2_eq, pk_un (by decide), b3, up2_eq, pk_us]
  · rw [c3, up2_eq, pk_us]
