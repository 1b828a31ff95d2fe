/-! THE CALCULUS: a walk of one method over a pure heap. G: what stays the same over the whole law (launch, classes' numbers, arrays' classes, the first own address, the constants' addresses). h: how many cells there are, and what each own cell holds. -/
abbrev Gt : Type := Launch × va_G × (Nat → ClassId) × Nat × (Nat → Nat)
abbrev gL (G : Gt) : Launch := G.1
abbrev gD (G : Gt) : va_G := G.2.1
abbrev gC (G : Gt) : Nat → ClassId := G.2.2.1
abbrev gB (G : Gt) : Nat := G.2.2.2.1
abbrev gA (G : Gt) : Nat → Nat := G.2.2.2.2
abbrev gO (G : Gt) : Nat → Prop := fun q => gB G ≤ q
abbrev Ht : Type := Nat × (Nat → va_E)
abbrev Yt : Type := MethodName × ByteArray × Nat × Option FieldType
def gT (G : Gt) : List (ClassId × FieldType) := [(gC G 0, .int), (gC G 1, .byte), (gC G 2, .boolean), (gC G 3, .object RX2), (gC G 4, .object RX9), (gC G 5, .array .int)]
def tb : List Cond := lw_tbl.filter goodWord
theorem tb_of {w : Cond} (i : Nat) (h : lw_tbl[i]? = some w) (hg : goodWord w = true) : w ∈ tb := List.mem_filter.mpr ⟨List.mem_of_getElem? h, hg⟩
theorem tb_good {w : Cond} (h : w ∈ tb) : goodWord w = true := (List.mem_filter.mp h).2
def yW (Y : Yt) : List Cond := .code Y.1 Y.2.1 Y.2.2.1 Y.2.2.2 :: tb
theorem yW_good {Y : Yt} (h : Cond.code Y.1 Y.2.1 Y.2.2.1 Y.2.2.2 ∈ tb) : GoodIn tb (yW Y) := by
  intro w hw
  rcases List.mem_cons.mp hw with rfl | hw
  · exact ⟨h, good_of_word (tb_good h)⟩
  · exact ⟨hw, good_of_word (tb_good hw)⟩
def nestM : List Cond := [.methodLinkNest RX11 9 yX10_init RX11, .methodLinkNest RX11 24 yX7_init RX11, .methodLinkNest RX11 37 yX3_init RX11, .methodLinkNest RX11 44 yX5_init RX11, .methodLinkNest RX5 11 yX3_init RX11, .methodLinkNest RX10 34 yX11_isWithin RX11, .methodLinkNest RX0 13 yX11_hasBit RX11, .methodLinkNest RX9 54 yX11_clamp RX11, .methodLinkNest RX7 91 yX11_isWithin RX11, .methodLinkNest RX3 60 yX11_hankOf RX11, .methodLinkNest RX5 77 yX11_hasBit RX11]
def nestF : List Cond := [.fieldLinkNest RX9 57 RX11 "LOWER_PART" "[I" RX11, .fieldLinkNest RX9 65 RX11 "HIGHER_PART" "[I" RX11, .fieldLinkNest RX3 64 RX11 "LOWER_PART" "[I" RX11, .fieldLinkNest RX3 67 RX11 "HIGHER_PART" "[I" RX11]
def castW : List Cond := [.castable RX6 RX8, .castable RX4 RX1, .castable RX8 RX2, .castable RX1 RX2, .castable RX0 RX2, .castable RX6 RX2, .castable RX4 RX2]
def declW : List Cond := [.declares yX2_takes, .declares yX2_brings]
/-- instanceof that answers no: a coat's class, a class that it isn't of -/
def ncW : List (String × String) := [(RX2, RX8), (RX1, RX8), (RX0, RX8), (RX4, RX8), (RX2, RX1), (RX8, RX1), (RX0, RX1), (RX6, RX1), (RX2, RX0), (RX8, RX0), (RX1, RX0), (RX6, RX0), (RX4, RX0), (RX2, RX6), (RX8, RX6), (RX1, RX6), (RX0, RX6), (RX4, RX6), (RX2, RX4), (RX8, RX4), (RX1, RX4), (RX0, RX4), (RX6, RX4)]
def overW : List FieldType := [.object RX2, .object RX9, .array .int]
def cLow : List Int32 := [0, 0, 1, 2, 2, 3]
def cHigh : List Int32 := [1, 2, 2, 3, 4, 4]
def cWeight : List Int32 := [1296, 216, 36, 6, 1]
def txWords : String := "ounces apart size worn faded vat bear seen keep or and not "
def txSigns : String := "();+-*<="
def btWords : List Int32 := [111, 117, 110, 99, 101, 115, 32, 97, 112, 97, 114, 116, 32, 115, 105, 122, 101, 32, 119, 111, 114, 110, 32, 102, 97, 100, 101, 100, 32, 118, 97, 116, 32, 98, 101, 97, 114, 32, 115, 101, 101, 110, 32, 107, 101, 101, 112, 32, 111, 114, 32, 97, 110, 100, 32, 110, 111, 116, 32]
def btSigns : List Int32 := [40, 41, 59, 43, 45, 42, 60, 61]
/-- the constants: three rows, a switch, two texts; the script -/
def GSc (G : Gt) (U : State) : Prop :=
  (va_Z RX11 "LOWER_PART" "[I" (.ref (gA G 0)) (gO G) U U.heap ∧ va_T .int (gA G 0) 6 (fun j => .int (cLow.getD j 0)) (gO G) U U.heap) ∧
  (va_Z RX11 "HIGHER_PART" "[I" (.ref (gA G 1)) (gO G) U U.heap ∧ va_T .int (gA G 1) 6 (fun j => .int (cHigh.getD j 0)) (gO G) U U.heap) ∧
  (va_Z RX11 "DIGIT_WEIGHT" "[I" (.ref (gA G 2)) (gO G) U U.heap ∧ va_T .int (gA G 2) 5 (fun j => .int (cWeight.getD j 0)) (gO G) U U.heap) ∧
  va_Z "java/lang/String" "COMPACT_STRINGS" "Z" (.int 1) (gO G) U U.heap ∧
  vk_R RX7 121 txWords (gA G 3) U ∧ vk_R RX7 113 txSigns (gA G 4) U ∧
  vk_S 2 [59, 8] [btWords, btSigns] (fun i => gA G (3 + i)) (fun i => gA G (5 + i)) (gO G) U U.heap ∧
  va_Zq "jdk/internal/util/Preconditions" "SIOOBE_FORMATTER" "Ljava/util/function/BiFunction;" (gO G) U U.heap ∧
  va_T .int (gA G 7) (gA G 8) (fun j => .int (Int32.ofNat (gA G (9 + j)))) (gO G) U U.heap
def GS (G : Gt) (U : State) : Prop :=
  va_K (gD G) vwCl (gT G) U ∧ (∀ w ∈ nestM, va_Nw w U) ∧ (∀ w ∈ nestF, va_Nw w U) ∧ (∀ w ∈ castW, va_Nw w U) ∧ (∀ w ∈ declW, va_Nw w U) ∧ (∀ q ∈ ncW, va_Nc q.1 q.2 U) ∧ gB G ≤ U.heap.size ∧ (∀ t ∈ overW, (Cond.arrayOver t).before #[] U = true) ∧ GSc G U
theorem nestM_form : ∀ w ∈ nestM, ∃ a i x h, w = .methodLinkNest a i x h := by
  intro w hw
  simp only [nestM, List.mem_cons, List.not_mem_nil, or_false] at hw
  rcases hw with rfl | rfl | rfl | rfl | rfl | rfl | rfl | rfl | rfl | rfl | rfl <;> exact ⟨_, _, _, _, rfl⟩
theorem nestF_form : ∀ w ∈ nestF, ∃ a i b n d h, w = .fieldLinkNest a i b n d h := by
  intro w hw
  simp only [nestF, List.mem_cons, List.not_mem_nil, or_false] at hw
  rcases hw with rfl | rfl | rfl | rfl <;> exact ⟨_, _, _, _, _, _, rfl⟩
theorem castW_form : ∀ w ∈ castW, ∃ a b, w = .castable a b := by
  intro w hw
  simp only [castW, List.mem_cons, List.not_mem_nil, or_false] at hw
  rcases hw with rfl | rfl | rfl | rfl | rfl | rfl | rfl <;> exact ⟨_, _, rfl⟩
theorem declW_form : ∀ w ∈ declW, ∃ a, w = .declares a := by
  intro w hw
  simp only [declW, List.mem_cons, List.not_mem_nil, or_false] at hw
  rcases hw with rfl | rfl <;> exact ⟨_, rfl⟩
theorem GSc.go {G : Gt} {s U : State} {H : Heap} (hW : s.WarmedH U.vm) (hU : U.heap = H) (hk : ∀ q : Nat, q < s.heap.size → ¬ gO G q → H[q]? = s.heap[q]?) (h : GSc G s) : GSc G U := by
  obtain ⟨⟨a1, a2⟩, ⟨b1, b2⟩, ⟨c1, c2⟩, d1, e1, e2, f1, g1, i1⟩ := h
  have al := hW.alike
  rw [← hU] at hk
  exact ⟨⟨va_Z.moved al (a1.kept hk), va_T.moved al (a2.kept hk)⟩, ⟨va_Z.moved al (b1.kept hk), va_T.moved al (b2.kept hk)⟩, ⟨va_Z.moved al (c1.kept hk), va_T.moved al (c2.kept hk)⟩, va_Z.moved al (d1.kept hk), e1.warm hW, e2.warm hW, vk_S.moved al (f1.kept hk), va_Zq.moved al (g1.kept hk), va_T.moved al (i1.kept hk)⟩
theorem GS.go {G : Gt} {s U : State} {H : Heap} {locs : List Loc} (h : GS G s) (hW : s.WarmedH U.vm) (hU : U.heap = H) (hS : va_S (gO G) s.heap H locs) : GS G U := by
  obtain ⟨h1, h2, h3, h4, h5, h6, h7, h9, h8⟩ := h
  refine ⟨va_K.moved hW.alike h1, fun w hw => ?_, fun w hw => ?_, fun w hw => ?_, fun w hw => ?_, fun q hq => va_Nc.moved hW.alike (h6 q hq), ?_, fun t ht => ?_, GSc.go hW hU hS.2.1 h8⟩
  · obtain ⟨a, i, x, y, rfl⟩ := nestM_form w hw
    exact va_Nw.warmM hW (h2 _ hw)
  · obtain ⟨a, i, b, n, d, y, rfl⟩ := nestF_form w hw
    exact va_Nw.warmF hW (h3 _ hw)
  · obtain ⟨a, b, rfl⟩ := castW_form w hw
    exact va_Nw.warmC hW (h4 _ hw)
  · obtain ⟨a, rfl⟩ := declW_form w hw
    exact va_Nw.warmD hW (h5 _ hw)
  · rw [hU]
    exact Nat.le_trans h7 hS.1
  · have h := h9 t ht
    rw [← Cond.arrayOver_setVmC hW.alike] at h
    exact h
theorem GS.calling {G : Gt} {U : State} {g : JFrame} {mk : MethodId} {a : Array Value} (h : GS G U) : GS G (U.calling g mk a) := by
  have hW : U.WarmedH (U.calling g mk a).vm := State.WarmedH.refl U
  exact h.go (H := U.heap) (locs := []) hW rfl va_S.rf
/-- the heap holds h -/
def HP (G : Gt) (h : Ht) (H : Heap) : Prop := H.size = h.1 ∧ gB G ≤ h.1 ∧ ∀ a : Nat, gB G ≤ a → a < h.1 → va_at (gD G) vwCl (a, h.2 a) H
theorem HP.one {G : Gt} {h : Ht} {H : Heap} (hp : HP G h H) {a : Nat} {e : va_E} (hB : gB G ≤ a) (hn : a < h.1) (he : h.2 a = e) : va_P (gD G) vwCl [(a, e)] H := by
  intro k q hq
  have hz : k < 1 := (List.getElem?_eq_some_iff.mp hq).1
  rw [show k = 0 by omega] at hq
  cases hq
  rw [← he]
  exact hp.2.2 a hB hn
theorem HP.set {G : Gt} {h : Ht} {H H1 : Heap} {a : Nat} {e : va_E} (hp : HP G h H) (he : va_at (gD G) vwCl (a, e) H1) (hz : H1.size = H.size) (oq : ∀ q : Nat, q ≠ a → H1[q]? = H[q]?) : HP G (h.1, va_up h.2 a e) H1 := by
  refine ⟨hz.trans hp.1, hp.2.1, fun b hb hn => ?_⟩
  by_cases hab : b = a
  · subst hab
    show va_at (gD G) vwCl (b, va_up h.2 b e b) H1
    rw [va_up_self]
    exact he
  · show va_at (gD G) vwCl (b, va_up h.2 a e b) H1
    rw [va_up_ne _ _ hab]
    exact (hp.2.2 b hb hn).kept (oq b hab)
theorem HP.push {G : Gt} {h : Ht} {H H1 : Heap} {e : va_E} (hp : HP G h H) (he : va_at (gD G) vwCl (h.1, e) H1) (hz : H1.size = H.size + 1) (oq : ∀ q : Nat, q < H.size → H1[q]? = H[q]?) : HP G (h.1 + 1, va_up h.2 h.1 e) H1 := by
  refine ⟨by rw [hz, hp.1], Nat.le_succ_of_le hp.2.1, fun b hb hn => ?_⟩
  by_cases hab : b = h.1
  · subst hab
    show va_at (gD G) vwCl (h.1, va_up h.2 h.1 e h.1) H1
    rw [va_up_self]
    exact he
  · show va_at (gD G) vwCl (b, va_up h.2 h.1 e b) H1
    rw [va_up_ne _ _ hab]
    have hlt : b < h.1 := by
      have : b < h.1 + 1 := hn
      omega
    exact (hp.2.2 b hb hlt).kept (oq b (by rw [hp.1]; exact hlt))
theorem va_S.own {G : Gt} {H0 H H1 : Heap} {locs : List Loc} {a i : Nat} (h : va_S (gO G) H0 H locs) (hz : H1.size = H.size) (oq : ∀ q : Nat, q ≠ a → H1[q]? = H[q]?) (ha : gB G ≤ a) : va_S (gO G) H0 H1 (locs ++ [⟨a, i⟩]) := by
  refine ⟨by rw [hz]; exact h.1, fun q h1 h2 => ?_, fun q hq => ?_⟩
  · rw [oq q (fun e => h2 (by rw [e]; exact ha))]
    exact h.2.1 q h1 h2
  · rcases List.mem_append.mp hq with hq | hq
    · exact h.2.2 q hq
    · rw [List.mem_singleton] at hq
      subst hq
      exact ha
theorem va_S.more {G : Gt} {H0 H H1 : Heap} {locs : List Loc} (h : va_S (gO G) H0 H locs) (hz : H.size ≤ H1.size) (oq : ∀ q : Nat, q < H.size → H1[q]? = H[q]?) : va_S (gO G) H0 H1 locs :=
  ⟨Nat.le_trans h.1 hz, fun q h1 h2 => (oq q (Nat.lt_of_lt_of_le h1 h.1)).trans (h.2.1 q h1 h2), h.2.2⟩
/-- the locals: those of the list that aren't none are held -/
def LR (nL : Nat) (ls : List (Option Value)) (jl : Array Slot) : Prop := jl.size = nL ∧ lv_wf jl ∧ ∀ (i : Nat) (v : Value), ls[i]? = some (some v) → jl[i]? = some (.val v)
def lrPairs (ls : List (Option Value)) : List (Nat × Value) := (List.range ls.length).filterMap fun i => match ls[i]? with | some (some v) => some (i, v) | _ => none
theorem lrPairs_mem {ls : List (Option Value)} {i : Nat} {v : Value} : (i, v) ∈ lrPairs ls ↔ ls[i]? = some (some v) := by
  unfold lrPairs
  rw [List.mem_filterMap]
  constructor
  · rintro ⟨j, -, hj⟩
    split at hj
    · next w hw =>
      cases hj
      exact hw
    · cases hj
  · intro h
    refine ⟨i, List.mem_range.mpr (List.getElem?_eq_some_iff.mp h).1, ?_⟩
    rw [h]
theorem LR.has {nL : Nat} {ls : List (Option Value)} {jl : Array Slot} (h : LR nL ls jl) : lv_has jl nL (lrPairs ls) := ⟨h.1, h.2.1, fun q hq => h.2.2 q.1 q.2 (lrPairs_mem.mp hq)⟩
/-- not a value of two words -/
def nc1 (o : Option Value) : Bool := match o with | some v => v.category == 1 | none => true
theorem LR.of_has1 {nL i : Nat} {ls : List (Option Value)} {jl : Array Slot} {v : Value} (hi : i < nL) (hc : ∀ j o, j + 1 = i → ls[j]? = some o → nc1 o = true) (h : lv_has jl nL ((i, v) :: (lrPairs ls).filter (fun q => !(q.1 == i) && !(q.1 + 1 == i && q.2.category == 2)))) : LR nL (ls.set i (some v)) jl := by
  refine ⟨h.1, h.2.1, fun j w hj => ?_⟩
  by_cases hji : j = i
  · subst hji
    have hlt : j < ls.length := by
      have := (List.getElem?_eq_some_iff.mp hj).1
      rwa [List.length_set] at this
    rw [List.getElem?_set_self hlt] at hj
    cases hj
    exact h.2.2 (j, v) List.mem_cons_self
  · rw [List.getElem?_set_ne (fun e => hji e.symm)] at hj
    refine h.2.2 (j, w) (List.mem_cons_of_mem _ (List.mem_filter.mpr ⟨lrPairs_mem.mpr hj, ?_⟩))
    by_cases h1 : j + 1 = i
    · have h2 := hc j _ h1 hj
      simp only [nc1, beq_iff_eq] at h2
      simp [hji, h1, h2]
    · simp [hji, h1]
