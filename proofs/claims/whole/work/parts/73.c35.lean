/-! THE LAW: what it starts with -/
theorem wl_1 {w : Cond} (i : Nat) (h : tables_1_1[i]? = some w) : w ∈ lw_tbl := List.mem_append_right _ (List.mem_append_left _ (List.mem_of_getElem? h))
theorem wl_2 {w : Cond} (i : Nat) (h : tables_1_2[i]? = some w) : w ∈ lw_tbl := List.mem_append_right _ (List.mem_append_right _ (List.mem_append_left _ (List.mem_of_getElem? h)))
theorem wl_3 {w : Cond} (i : Nat) (h : tables_1_3[i]? = some w) : w ∈ lw_tbl := List.mem_append_right _ (List.mem_append_right _ (List.mem_append_right _ (List.mem_append_left _ (List.mem_of_getElem? h))))
theorem wl_4 {w : Cond} (i : Nat) (h : tables_1_4[i]? = some w) : w ∈ lw_tbl := List.mem_append_right _ (List.mem_append_right _ (List.mem_append_right _ (List.mem_append_right _ (List.mem_append_left _ (List.mem_of_getElem? h)))))
theorem wl_5 {w : Cond} (i : Nat) (h : tables_1_5[i]? = some w) : w ∈ lw_tbl := List.mem_append_right _ (List.mem_append_right _ (List.mem_append_right _ (List.mem_append_right _ (List.mem_append_right _ (List.mem_append_left _ (List.mem_of_getElem? h))))))
theorem wl_6 {w : Cond} (i : Nat) (h : tables_1_6[i]? = some w) : w ∈ lw_tbl := List.mem_append_right _ (List.mem_append_right _ (List.mem_append_right _ (List.mem_append_right _ (List.mem_append_right _ (List.mem_append_right _ (List.mem_append_left _ (List.mem_of_getElem? h)))))))
theorem wl_7 {w : Cond} (i : Nat) (h : tables_1_7[i]? = some w) : w ∈ lw_tbl := List.mem_append_right _ (List.mem_append_right _ (List.mem_append_right _ (List.mem_append_right _ (List.mem_append_right _ (List.mem_append_right _ (List.mem_append_right _ (List.mem_of_getElem? h)))))))
theorem wl_places {ws : List Cond} (ps : List Nat) (hp : ws = ps.filterMap (fun i => lw_tbl[i]?)) : ∀ w ∈ ws, w ∈ lw_tbl := by
  intro w hw
  rw [hp] at hw
  obtain ⟨i, -, hi⟩ := List.mem_filterMap.mp hw
  exact List.mem_of_getElem? hi
theorem tb_lw {w : Cond} (h : w ∈ tb) : w ∈ lw_tbl := (List.mem_filter.mp h).1
theorem wl_nM : ∀ w ∈ nestM, w ∈ lw_tbl := wl_places [100, 141, 183, 230, 235, 340, 521, 583, 826, 899, 986] (by decide +kernel)
theorem wl_nF : ∀ w ∈ nestF, w ∈ lw_tbl := wl_places [539, 542, 904, 905] (by decide +kernel)
theorem wl_cW : ∀ w ∈ castW, w ∈ lw_tbl := wl_places [1555, 1556, 1557, 1558, 1559, 1560, 1561] (by decide +kernel)
theorem wl_dW : ∀ w ∈ declW, w ∈ lw_tbl := wl_places [531, 601] (by decide +kernel)
abbrev PRE1 : Cond := Jvm.Cond.and given_1 narrow_1
theorem fl_nc : ∀ q ∈ ncW, Cond.not (.castable q.1 q.2) ∈ flatC PRE1 := by decide +kernel
theorem vk_S.cg {N : Nat} {len : List Nat} {byt : List (List Int32)} {k1 v1 k2 v2 : Nat → Nat} {A : Nat → Prop} {U : State} {H : Heap} (h : vk_S N len byt k1 v1 A U H) (e : ∀ i, i < N → k2 i = k1 i ∧ v2 i = v1 i) : vk_S N len byt k2 v2 A U H := by
  refine ⟨fun i hi => ?_, fun i j hi hj he => h.2 i j hi hj (by rw [← (e i hi).1, ← (e j hj).1]; exact he)⟩
  rw [(e i hi).1, (e i hi).2]
  exact h.1 i hi
section ST
variable {s : State} {args : Array Value} (hts : ∀ w ∈ lw_tbl, w.before args s = true)
theorem st_cls (hts : ∀ w ∈ lw_tbl, w.before args s = true) : ∀ c : Nat, ∃ q : ClassId × (Nat → Nat), ∀ r : vw_C, vwCl[c]? = some r → u_Kn s r.1 r.2.1 r.2.2 q.1 q.2 := by
  have ht : ∀ w ∈ tb, w.before args s = true := fun w hw => hts w (tb_lw hw)
  intro c
  match c with
  | 0 =>
    obtain ⟨a, b, h⟩ := u_known (C := RX0) (T := TX0) (N := 10) (n := 10) ht cob_0.2.1 (hts _ (wl_2 135 rfl))
    exact ⟨(a, b), fun r hr => by cases hr; exact h⟩
  | 1 =>
    obtain ⟨a, b, h⟩ := u_known (C := RX1) (T := TX1) (N := 10) (n := 10) ht cob_1.2.1 (hts _ (wl_2 118 rfl))
    exact ⟨(a, b), fun r hr => by cases hr; exact h⟩
  | 2 =>
    obtain ⟨a, b, h⟩ := u_known (C := RX2) (T := TX2) (N := 10) (n := 10) ht cob_2.2.1 (hts _ (wl_2 185 rfl))
    exact ⟨(a, b), fun r hr => by cases hr; exact h⟩
  | 3 =>
    obtain ⟨a, b, h⟩ := u_known (C := RX3) (T := TX3) (N := 12) (n := 12) ht cob_3.2.1 (hts _ (wl_1 114 rfl))
    exact ⟨(a, b), fun r hr => by cases hr; exact h⟩
  | 4 =>
    obtain ⟨a, b, h⟩ := u_known (C := RX4) (T := TX4) (N := 10) (n := 10) ht cob_4.2.1 (hts _ (wl_2 169 rfl))
    exact ⟨(a, b), fun r hr => by cases hr; exact h⟩
  | 5 =>
    obtain ⟨a, b, h⟩ := u_known (C := RX5) (T := TX5) (N := 6) (n := 6) ht cob_5.2.1 (hts _ (wl_1 161 rfl))
    exact ⟨(a, b), fun r hr => by cases hr; exact h⟩
  | 6 =>
    obtain ⟨a, b, h⟩ := u_known (C := RX6) (T := TX6) (N := 10) (n := 10) ht cob_6.2.1 (hts _ (wl_2 152 rfl))
    exact ⟨(a, b), fun r hr => by cases hr; exact h⟩
  | 7 =>
    obtain ⟨a, b, h⟩ := u_known (C := RX7) (T := TX7) (N := 10) (n := 10) ht cob_7.2.1 (hts _ (wl_1 72 rfl))
    exact ⟨(a, b), fun r hr => by cases hr; exact h⟩
  | 8 =>
    obtain ⟨a, b, h⟩ := u_known (C := RX8) (T := TX8) (N := 10) (n := 10) ht cob_8.2.1 (hts _ (wl_2 56 rfl))
    exact ⟨(a, b), fun r hr => by cases hr; exact h⟩
  | 9 =>
    obtain ⟨a, b, h⟩ := u_known (C := RX9) (T := TX9) (N := 4) (n := 4) ht cob_9.2.1 (hts _ (wl_1 197 rfl))
    exact ⟨(a, b), fun r hr => by cases hr; exact h⟩
  | 10 =>
    obtain ⟨a, b, h⟩ := u_known (C := RX10) (T := TX10) (N := 8) (n := 8) ht cob_10.2.1 (hts _ (wl_1 31 rfl))
    exact ⟨(a, b), fun r hr => by cases hr; exact h⟩
  | 11 =>
    obtain ⟨a, b, h⟩ := u_known (C := RX11) (T := TX11) (N := 16) (n := 16) ht cob_11.2.1 (hts _ (wl_1 23 rfl))
    exact ⟨(a, b), fun r hr => by cases hr; exact h⟩
  | 12 =>
    obtain ⟨a, b, h⟩ := u_known (C := RX12) (T := TX12) (N := 52) (n := 52) ht cob_12.2.1 (hts _ (wl_5 64 rfl))
    exact ⟨(a, b), fun r hr => by cases hr; exact h⟩
  | c + 13 => exact ⟨(0, fun _ => 0), fun r hr => by simp [vwCl] at hr⟩
end ST
theorem st_arr_int {s : State} {args : Array Value} (hts : ∀ w ∈ lw_tbl, w.before args s = true) : ∃ c : ClassId, ArrOfT s c .int ∧ va_RA s c .int := by
  obtain ⟨c, k, comp, h1, h2, h3⟩ := Cond.arrayClass_spec (hts (.arrayClass .int) (wl_1 68 rfl))
  exact ⟨c, fun n z => ⟨fun q h => (by cases h), k, h2, comp, h3⟩, h1⟩
theorem st_arr_byte {s : State} {args : Array Value} (hts : ∀ w ∈ lw_tbl, w.before args s = true) : ∃ c : ClassId, ArrOfT s c .byte ∧ va_RA s c .byte := by
  obtain ⟨c, k, comp, h1, h2, h3⟩ := Cond.arrayClass_spec (hts (.arrayClass .byte) (wl_1 110 rfl))
  exact ⟨c, fun n z => ⟨fun q h => (by cases h), k, h2, comp, h3⟩, h1⟩
theorem st_arr_boolean {s : State} {args : Array Value} (hts : ∀ w ∈ lw_tbl, w.before args s = true) : ∃ c : ClassId, ArrOfT s c .boolean ∧ va_RA s c .boolean := by
  obtain ⟨c, k, comp, h1, h2, h3⟩ := Cond.arrayClass_spec (hts (.arrayClass .boolean) (wl_5 225 rfl))
  exact ⟨c, fun n z => ⟨fun q h => (by cases h), k, h2, comp, h3⟩, h1⟩
theorem st_arr_coat {s : State} {args : Array Value} (hts : ∀ w ∈ lw_tbl, w.before args s = true) : ∃ c : ClassId, ArrOfT s c (.object RX2) ∧ va_RA s c (.object RX2) := by
  obtain ⟨comp, c, k, h1, -, h2, h3, h4⟩ := Cond.arrayOver_spec (hts (.arrayOver (.object RX2)) (wl_1 70 rfl))
  exact ⟨c, fun n z => ⟨fun q h => (by cases h), k, h2, comp, h3⟩, k, comp, h2, h3, h1, h4⟩
theorem st_arr_text {s : State} {args : Array Value} (hts : ∀ w ∈ lw_tbl, w.before args s = true) : ∃ c : ClassId, ArrOfT s c (.object RX9) ∧ va_RA s c (.object RX9) := by
  obtain ⟨comp, c, k, h1, -, h2, h3, h4⟩ := Cond.arrayOver_spec (hts (.arrayOver (.object RX9)) (wl_1 112 rfl))
  exact ⟨c, fun n z => ⟨fun q h => (by cases h), k, h2, comp, h3⟩, k, comp, h2, h3, h1, h4⟩
theorem st_arr_arr {s : State} {args : Array Value} (hts : ∀ w ∈ lw_tbl, w.before args s = true) : ∃ c : ClassId, ArrOfT s c (.array .int) ∧ va_RA s c (.array .int) := by
  obtain ⟨comp, c, k, h1, -, h2, h3, h4⟩ := arrayOverA_spec (hts (.arrayOver (.array .int)) (wl_1 170 rfl))
  exact ⟨c, fun n z => ⟨fun q h => (by cases h), k, h2, comp, h3⟩, h4⟩
theorem fl_low : ∀ j, j < 6 → Cond.eq (.elem (.static RX11 "LOWER_PART" "[I") (.int (Int32.ofNat j))) (.int (cLow.getD j 0)) ∈ flatC PRE1 := by decide +kernel
theorem st_low {s : State} {args : Array Value} (hts : ∀ w ∈ lw_tbl, w.before args s = true) (hgv : PRE1.before args s = true) {A : Nat → Prop} (hA : ∀ a : Nat, a < s.heap.size → ¬ A a) : ∃ t : Nat, va_Z RX11 "LOWER_PART" "[I" (.ref t) A s s.heap ∧ va_T .int t 6 (fun j => .int (cLow.getD j 0)) A s s.heap := by
  have hs := flat_of_before _ hgv
  obtain ⟨t, h1, h2⟩ := va_Tof (tm := .static RX11 "LOWER_PART" "[I") (ty := .int) (N := 6) (f := fun j => .int (cLow.getD j 0)) (A := A) (by decide) (hs _ (by decide +kernel)) (va_eqt (z := Int32.ofNat 6) (hs _ (by decide +kernel))) (fun j hj => va_eqt (hs _ (fl_low j hj))) hA
  exact ⟨t, va_Zref (hts _ (wl_2 232 rfl)) (hts _ (wl_1 1 rfl)) h1 hA, h2⟩
theorem fl_high : ∀ j, j < 6 → Cond.eq (.elem (.static RX11 "HIGHER_PART" "[I") (.int (Int32.ofNat j))) (.int (cHigh.getD j 0)) ∈ flatC PRE1 := by decide +kernel
theorem st_high {s : State} {args : Array Value} (hts : ∀ w ∈ lw_tbl, w.before args s = true) (hgv : PRE1.before args s = true) {A : Nat → Prop} (hA : ∀ a : Nat, a < s.heap.size → ¬ A a) : ∃ t : Nat, va_Z RX11 "HIGHER_PART" "[I" (.ref t) A s s.heap ∧ va_T .int t 6 (fun j => .int (cHigh.getD j 0)) A s s.heap := by
  have hs := flat_of_before _ hgv
  obtain ⟨t, h1, h2⟩ := va_Tof (tm := .static RX11 "HIGHER_PART" "[I") (ty := .int) (N := 6) (f := fun j => .int (cHigh.getD j 0)) (A := A) (by decide) (hs _ (by decide +kernel)) (va_eqt (z := Int32.ofNat 6) (hs _ (by decide +kernel))) (fun j hj => va_eqt (hs _ (fl_high j hj))) hA
  exact ⟨t, va_Zref (hts _ (wl_2 235 rfl)) (hts _ (wl_1 1 rfl)) h1 hA, h2⟩
theorem fl_wt : ∀ j, j < 5 → Cond.eq (.elem (.static RX11 "DIGIT_WEIGHT" "[I") (.int (Int32.ofNat j))) (.int (cWeight.getD j 0)) ∈ flatC PRE1 := by decide +kernel
theorem st_wt {s : State} {args : Array Value} (hts : ∀ w ∈ lw_tbl, w.before args s = true) (hgv : PRE1.before args s = true) {A : Nat → Prop} (hA : ∀ a : Nat, a < s.heap.size → ¬ A a) : ∃ t : Nat, va_Z RX11 "DIGIT_WEIGHT" "[I" (.ref t) A s s.heap ∧ va_T .int t 5 (fun j => .int (cWeight.getD j 0)) A s s.heap := by
  have hs := flat_of_before _ hgv
  obtain ⟨t, h1, h2⟩ := va_Tof (tm := .static RX11 "DIGIT_WEIGHT" "[I") (ty := .int) (N := 5) (f := fun j => .int (cWeight.getD j 0)) (A := A) (by decide) (hs _ (by decide +kernel)) (va_eqt (z := Int32.ofNat 5) (hs _ (by decide +kernel))) (fun j hj => va_eqt (hs _ (fl_wt j hj))) hA
  exact ⟨t, va_Zref (hts _ (wl_4 115 rfl)) (hts _ (wl_1 1 rfl)) h1 hA, h2⟩
def tmS (i : Nat) : Term := if i = 0 then .string RX7 121 else .string RX7 113
theorem fl_s0 : ∀ j, j < 59 → Cond.eq (.elem (.field (tmS 0) "java/lang/String" "value" "[B") (.int (Int32.ofNat j))) (.int ((([btWords, btSigns].getD 0 [])).getD j 0)) ∈ flatC PRE1 := by decide +kernel
theorem fl_s1 : ∀ j, j < 8 → Cond.eq (.elem (.field (tmS 1) "java/lang/String" "value" "[B") (.int (Int32.ofNat j))) (.int ((([btWords, btSigns].getD 1 [])).getD j 0)) ∈ flatC PRE1 := by decide +kernel
theorem fl_sx : ∀ i, i < 2 → Cond.exactly (tmS i) "java/lang/String" ∈ flatC PRE1 ∧ Cond.eq (.field (tmS i) "java/lang/String" "coder" "B") (.int 0) ∈ flatC PRE1 ∧ Cond.arrayOf (.field (tmS i) "java/lang/String" "value" "[B") .byte ∈ flatC PRE1 ∧ Cond.eq (.length (.field (tmS i) "java/lang/String" "value" "[B")) (.int (Int32.ofNat ([59, 8].getD i 0))) ∈ flatC PRE1 := by decide +kernel
theorem fl_sn : Cond.not (.eq (tmS 0) (tmS 1)) ∈ flatC PRE1 := by decide +kernel
theorem st_str {s : State} {args : Array Value} (hts : ∀ w ∈ lw_tbl, w.before args s = true) (hgv : PRE1.before args s = true) {A : Nat → Prop} (hA : ∀ a : Nat, a < s.heap.size → ¬ A a) : ∃ adK adV : Nat → Nat, vk_S 2 [59, 8] [btWords, btSigns] adK adV A s s.heap ∧ vk_R RX7 121 txWords (adK 0) s ∧ vk_R RX7 113 txSigns (adK 1) s := by
  have hs := flat_of_before _ hgv
  obtain ⟨adK, adV, h1, h2⟩ := vk_Sof (args := args) (s := s) (N := 2) (tm := tmS) (len := [59, 8]) (byt := [btWords, btSigns]) (A := A) (fun i hi => by rcases (by omega : i = 0 ∨ i = 1) with rfl | rfl <;> decide) (fun i hi => hs _ (fl_sx i hi).1) (fun i hi => hs _ (fl_sx i hi).2.1) (fun i hi => hs _ (fl_sx i hi).2.2.1) (fun i hi => hs _ (fl_sx i hi).2.2.2) (fun i hi j hj => by
    rcases (by omega : i = 0 ∨ i = 1) with rfl | rfl
    · exact hs _ (fl_s0 j hj)
    · exact hs _ (fl_s1 j hj)) (fun i j hi hj hij => by
    rcases (by omega : i = 0 ∨ i = 1) with rfl | rfl
    · obtain rfl : j = 1 := by omega
      exact Or.inl (hs _ fl_sn)
    · obtain rfl : j = 0 := by omega
      exact Or.inr (hs _ fl_sn)) hA
  exact ⟨adK, adV, h1, vk_R.of (hts _ (wl_3 125 rfl)) (h2 0 (by decide)), vk_R.of (hts _ (wl_3 178 rfl)) (h2 1 (by decide))⟩
theorem st_x {b L : Nat} {xs : Nat → Int32} {s : State} {A : Nat → Prop} {f : Nat → Nat} (h : va_X b L xs s s.heap) (hb : ¬ A b) (hf : ∀ j, Int32.ofNat (f j) = xs j) : va_T .int b L (fun j => .int (Int32.ofNat (f j))) A s s.heap := by
  obtain ⟨cell, h1, h2, h3, h4, h5⟩ := h
  refine ⟨cell, h1, h2, h3, by omega, by rw [h4], fun j hj => ?_, hb⟩
  show cell.slots[j]? = some (.int (Int32.ofNat (f j)))
  rw [hf]
  exact h5 j hj
theorem ofN_tn (x : Int32) : Int32.ofNat x.toBitVec.toNat = x := by
  apply Int32.toBitVec_inj.mp
  simp
def gA0 (a0 a1 a2 : Nat) (k v : Nat → Nat) (b L : Nat) (xs : Nat → Int32) (i : Nat) : Nat := if i = 0 then a0 else if i = 1 then a1 else if i = 2 then a2 else if i = 3 then k 0 else if i = 4 then k 1 else if i = 5 then v 0 else if i = 6 then v 1 else if i = 7 then b else if i = 8 then L else (xs (i - 9)).toBitVec.toNat
def gC0 (c0 c1 c2 c3 c4 c5 : ClassId) (i : Nat) : ClassId := if i = 0 then c0 else if i = 1 then c1 else if i = 2 then c2 else if i = 3 then c3 else if i = 4 then c4 else c5
set_option maxRecDepth 100000 in
theorem gs_start (l : Launch) {s : State} {args : Array Value} {b L : Nat} {xs : Nat → Int32} (hts : ∀ w ∈ lw_tbl, w.before args s = true) (hgv : PRE1.before args s = true) (hX : va_X b L xs s s.heap) (hb : b < s.heap.size) : ∃ G : Gt, gL G = l ∧ gB G = s.heap.size ∧ GS G s ∧ gA G 7 = b ∧ gA G 8 = L := by
  have hA : ∀ a : Nat, a < s.heap.size → ¬ (fun q => s.heap.size ≤ q) a := fun a h => Nat.not_le.mpr h
  obtain ⟨dc, hdc⟩ := Classical.axiomOfChoice (st_cls hts)
  obtain ⟨c0, x0⟩ := st_arr_int hts
  obtain ⟨c1, x1⟩ := st_arr_byte hts
  obtain ⟨c2, x2⟩ := st_arr_boolean hts
  obtain ⟨c3, x3⟩ := st_arr_coat hts
  obtain ⟨c4, x4⟩ := st_arr_text hts
  obtain ⟨c5, x5⟩ := st_arr_arr hts
  obtain ⟨a0, y0⟩ := st_low hts hgv hA
  obtain ⟨a1, y1⟩ := st_high hts hgv hA
  obtain ⟨a2, y2⟩ := st_wt hts hgv hA
  obtain ⟨adK, adV, z1, z2, z3⟩ := st_str hts hgv hA
  have hs := flat_of_before _ hgv
  refine ⟨(l, (fun c => (dc c).1, fun c => (dc c).2), gC0 c0 c1 c2 c3 c4 c5, s.heap.size, gA0 a0 a1 a2 adK adV b L xs), rfl, rfl, ⟨⟨fun c q hq => hdc c q hq, fun k q hk => ?_⟩, fun w hw => ?_, fun w hw => ?_, fun w hw => ?_, fun w hw => ?_, fun q hq => va_Nc.of (hs _ (fl_nc q hq)), Nat.le_refl _, fun t ht => ?_, ⟨y0, y1, y2, va_Zof (hts _ (wl_3 135 rfl)) (hts _ (wl_1 15 rfl)) (va_eqi (hs _ (by decide +kernel))) hA, z2, z3, z1.cg (fun i hi => by rcases (by omega : i = 0 ∨ i = 1) with rfl | rfl <;> exact ⟨rfl, rfl⟩), va_Zqof (hts _ (wl_3 151 rfl)) (hts _ (wl_1 17 rfl)) (hs _ (by decide +kernel)) hA, st_x (f := fun j => gA0 a0 a1 a2 adK adV b L xs (9 + j)) hX (Nat.not_le.mpr hb) (fun j => ?_)⟩⟩, rfl, rfl⟩
  · have hl : k < 6 := (List.getElem?_eq_some_iff.mp hk).1
    rcases (by omega : k = 0 ∨ k = 1 ∨ k = 2 ∨ k = 3 ∨ k = 4 ∨ k = 5) with rfl | rfl | rfl | rfl | rfl | rfl <;> cases hk
    · exact x0
    · exact x1
    · exact x2
    · exact x3
    · exact x4
    · exact x5
  · have h := hts w (wl_nM w hw)
    obtain ⟨a, i, x, y, rfl⟩ := nestM_form w hw
    exact va_Nw.of rfl h
  · have h := hts w (wl_nF w hw)
    obtain ⟨a, i, b, n, d, y, rfl⟩ := nestF_form w hw
    exact va_Nw.of rfl h
  · have h := hts w (wl_cW w hw)
    obtain ⟨a, x, rfl⟩ := castW_form w hw
    exact va_Nw.of rfl h
  · have h := hts w (wl_dW w hw)
    obtain ⟨a, rfl⟩ := declW_form w hw
    exact va_Nw.of rfl h
  · simp only [overW, List.mem_cons, List.not_mem_nil, or_false] at ht
    rcases ht with rfl | rfl | rfl
    · exact hts _ (wl_1 70 rfl)
    · exact hts _ (wl_1 112 rfl)
    · exact hts _ (wl_1 170 rfl)
  · have e : gA0 a0 a1 a2 adK adV b L xs (9 + j) = (xs j).toBitVec.toNat := by
      unfold gA0
      rw [if_neg (by omega), if_neg (by omega), if_neg (by omega), if_neg (by omega), if_neg (by omega), if_neg (by omega), if_neg (by omega), if_neg (by omega), if_neg (by omega), show 9 + j - 9 = j by omega]
    show Int32.ofNat (gA0 a0 a1 a2 adK adV b L xs (9 + j)) = xs j
    rw [e]
    exact ofN_tn _
