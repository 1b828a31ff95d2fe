/-! THE REFERENCE: its state S k i (field k, place i; a number: place 0), and what its cells hold -/
abbrev MS : Type := Nat → Nat → Int32
def up2 (S : MS) (k i : Nat) (x : Int32) : MS := fun k' => if k' = k then upd (S k') i x else S k'
theorem up2_ne {S : MS} {k i : Nat} {x : Int32} {k' : Nat} (h : k' ≠ k) : up2 S k i x k' = S k' := if_neg h
theorem up2_eq {S : MS} {k i : Nat} {x : Int32} : up2 S k i x k = upd (S k) i x := if_pos rfl
def mFs (m : Nat) (S : MS) : List Value := [.int (S 0 0), .int (S 1 0), .ref (m + 1 + 0), .ref (m + 1 + 1), .ref (m + 1 + 2), .ref (m + 1 + 3), .int (S 6 0), .ref (m + 1 + 4), .ref (m + 1 + 5), .ref (m + 1 + 6), .ref (m + 1 + 7), .ref (m + 1 + 8), .ref (m + 1 + 9), .ref (m + 1 + 10), .ref (m + 1 + 11), .int (S 15 0), .int (S 16 0), .int (S 17 0), .ref (m + 1 + 12), .ref (m + 1 + 13), .ref (m + 1 + 14), .int (S 21 0), .int (S 22 0), .int (S 23 0), .int (S 24 0), .int (S 25 0), .int (S 26 0), .int (S 27 0), .ref (m + 1 + 15), .ref (m + 1 + 16), .ref (m + 1 + 17), .ref (m + 1 + 18), .int (S 32 0), .int (S 33 0), .int (S 34 0), .ref (m + 1 + 19), .int (S 36 0), .int (S 37 0), .int (S 38 0), .int (S 39 0), .int (S 40 0), .int (S 41 0), .int (S 42 0), .ref (m + 1 + 20), .ref (m + 1 + 21), .ref (m + 1 + 22), .ref (m + 1 + 23), .ref (m + 1 + 24), .ref (m + 1 + 25), .ref (m + 1 + 26), .ref (m + 1 + 27), .ref (m + 1 + 28)]
/-- the rows: field, sort, length -/
def mA : List (Nat × Nat × Nat) := [(2, 0, 6), (3, 0, 6), (4, 0, 6), (5, 0, 9), (7, 0, 8), (8, 0, 8), (9, 0, 8), (10, 0, 8), (11, 2, 8), (12, 0, 8), (13, 0, 8), (14, 1, 160), (18, 0, 1190), (19, 0, 1190), (20, 0, 21), (28, 0, 170), (29, 0, 6), (30, 0, 5), (31, 0, 6), (35, 2, 216), (43, 0, 6), (44, 0, 9), (45, 2, 8), (46, 0, 8), (47, 0, 8), (48, 0, 4), (49, 0, 4), (50, 0, 160), (51, 0, 40)]
def mSc : List Nat := [0, 1, 6, 15, 16, 17, 21, 22, 23, 24, 25, 26, 27, 32, 33, 34, 36, 37, 38, 39, 40, 41, 42]
def MPic (G : Gt) (m : Nat) (h0 : Ht) (S : MS) (h : Ht) : Prop :=
  gB G ≤ m ∧ m + 30 ≤ h.1 ∧ h.1 = h0.1 ∧ h.2 m = .inr (12, mFs m S) ∧ (∀ (j k t n : Nat), mA[j]? = some (k, t, n) → h.2 (m + 1 + j) = .inl (gC G t, n, .inl (S k))) ∧ ∀ a : Nat, a < m ∨ m + 30 ≤ a → h.2 a = h0.2 a
theorem mFs_set {m k : Nat} {S : MS} (x : Int32) (hk : k ∈ mSc) : (mFs m S).set k (.int x) = mFs m (up2 S k 0 x) := by
  simp only [mSc, List.mem_cons, List.not_mem_nil, or_false] at hk
  rcases hk with rfl | rfl | rfl | rfl | rfl | rfl | rfl | rfl | rfl | rfl | rfl | rfl | rfl | rfl | rfl | rfl | rfl | rfl | rfl | rfl | rfl | rfl | rfl <;> rfl
theorem mA_len {j k t n : Nat} (h : mA[j]? = some (k, t, n)) : j < 29 := (List.getElem?_eq_some_iff.mp h).1
theorem mA_sc {j k t n : Nat} (h : mA[j]? = some (k, t, n)) : k ∉ mSc := by
  have h1 := List.mem_of_getElem? h
  have h2 : ∀ q ∈ mA, q.1 ∉ mSc := by decide
  exact h2 _ h1
theorem mA_inj {j j' k t n t' n' : Nat} (h : mA[j]? = some (k, t, n)) (h' : mA[j']? = some (k, t', n')) : j = j' := by
  have a1 := mA_len h
  have a2 := mA_len h'
  have h2 : ∀ i, i < 29 → ∀ i', i' < 29 → (mA[i]?.map Prod.fst) = (mA[i']?.map Prod.fst) → i = i' := by decide
  exact h2 j a1 j' a2 (by rw [h, h']; rfl)
theorem mFs_arr {m k i : Nat} {S : MS} (x : Int32) (hk : k ∉ mSc) : mFs m (up2 S k i x) = mFs m S := by
  have e : ∀ q ∈ mSc, up2 S k i x q = S q := fun q hq => up2_ne (fun e => hk (e ▸ hq))
  unfold mFs
  rw [e 0 (by decide), e 1 (by decide), e 6 (by decide), e 15 (by decide), e 16 (by decide), e 17 (by decide), e 21 (by decide), e 22 (by decide), e 23 (by decide), e 24 (by decide), e 25 (by decide), e 26 (by decide), e 27 (by decide), e 32 (by decide), e 33 (by decide), e 34 (by decide), e 36 (by decide), e 37 (by decide), e 38 (by decide), e 39 (by decide), e 40 (by decide), e 41 (by decide), e 42 (by decide)]
section MXr
variable {G : Gt} {m : Nat} {h0 : Ht} {d : Nat} {Y : Yt} {pc : Nat} {ls : List (Option Value)} {st : List Value} {S : MS} {mc ms : Nat} {Post : Option Value → MS → Prop}
theorem mx_getI {index k : Nat} {ty : FieldType} {fin : Bool} (hd : decode Y.2.1 pc = .ok (.getfield index, 3)) (hg : GF Y.1.cls index 12 k ty fin) (hs : ∀ S : MS, (mFs m S)[k]? = some (.int (S k 0))) (kk : PX G (MPic G m h0) d Y (pc + 3) ls (.int (S k 0) :: st) S mc ms Post) : PX G (MPic G m h0) d Y pc ls (.ref m :: st) S mc ms Post :=
  fun h hp => ax_get hd hg hp.1 (by have := hp.2.1; omega) hp.2.2.2.1 (hs S) (kk h hp)
theorem mx_getA {index k j : Nat} {ty : FieldType} {fin : Bool} (hd : decode Y.2.1 pc = .ok (.getfield index, 3)) (hg : GF Y.1.cls index 12 k ty fin) (hs : ∀ S : MS, (mFs m S)[k]? = some (.ref (m + 1 + j))) (kk : PX G (MPic G m h0) d Y (pc + 3) ls (.ref (m + 1 + j) :: st) S mc ms Post) : PX G (MPic G m h0) d Y pc ls (.ref m :: st) S mc ms Post :=
  fun h hp => ax_get hd hg hp.1 (by have := hp.2.1; omega) hp.2.2.2.1 (hs S) (kk h hp)
theorem MPic.put {h : Ht} {k : Nat} (hp : MPic G m h0 S h) (x : Int32) (hk : k ∈ mSc) : MPic G m h0 (up2 S k 0 x) (h.1, va_up h.2 m (.inr (12, (mFs m S).set k (.int x)))) := by
  obtain ⟨p1, p2, p3, p4, p5, p6⟩ := hp
  refine ⟨p1, p2, p3, ?_, fun j k' t n hj => ?_, fun a ha => ?_⟩
  · show va_up h.2 m _ m = _
    rw [va_up_self, mFs_set x hk]
  · show va_up h.2 m _ (m + 1 + j) = _
    have hne : k' ≠ k := fun e => mA_sc hj (e ▸ hk)
    rw [va_up_ne _ _ (by omega), p5 j k' t n hj, up2_ne hne]
  · show va_up h.2 m _ a = _
    rw [va_up_ne _ _ (by omega)]
    exact p6 a ha
theorem MPic.ast {h : Ht} {j k t n i : Nat} (hp : MPic G m h0 S h) (x : Int32) (hj : mA[j]? = some (k, t, n)) : MPic G m h0 (up2 S k i x) (h.1, va_up h.2 (m + 1 + j) (.inl (gC G t, n, .inl (upd (S k) i x)))) := by
  obtain ⟨p1, p2, p3, p4, p5, p6⟩ := hp
  have hl := mA_len hj
  refine ⟨p1, p2, p3, ?_, fun j' k' t' n' hj' => ?_, fun a ha => ?_⟩
  · show va_up h.2 _ _ m = _
    rw [va_up_ne _ _ (by omega), p4, mFs_arr x (mA_sc hj)]
  · show va_up h.2 _ _ (m + 1 + j') = _
    by_cases e : j' = j
    · subst e
      have e2 := hj.symm.trans hj'
      cases e2
      rw [va_up_self, up2_eq]
    · have hne : k' ≠ k := fun e2 => e (mA_inj hj' (e2 ▸ hj))
      rw [va_up_ne _ _ (by omega), p5 j' k' t' n' hj', up2_ne hne]
  · show va_up h.2 _ _ a = _
    rw [va_up_ne _ _ (by omega)]
    exact p6 a ha
theorem mx_putI {index k : Nat} {ty : FieldType} {x : Int32} (hd : decode Y.2.1 pc = .ok (.putfield index, 3)) (hg : GF Y.1.cls index 12 k ty false) (hk : k ∈ mSc) (hn : narrow ty (.int x) = .int x) (hf : fits ty (.int x) = true) (kk : PX G (MPic G m h0) d Y (pc + 3) ls st (up2 S k 0 x) mc ms Post) : PX G (MPic G m h0) d Y pc ls (.int x :: .ref m :: st) S mc ms Post :=
  fun h hp => ax_put hd hg hp.1 (by have := hp.2.1; omega) hp.2.2.2.1 (by have h2 : ∀ q ∈ mSc, q < 52 := by decide
                                                                          exact h2 k hk) hn hf (kk _ (hp.put x hk))
theorem mx_iald {j k n : Nat} {i : Int32} (n0 : Nat) (hd : decode Y.2.1 pc = .ok (.iaload, 1)) (hj : mA[j]? = some (k, 0, n)) (hi : i = nI n0) (hlt : n0 < n) (hn : n < 2 ^ 31) (kk : PX G (MPic G m h0) d Y (pc + 1) ls (.int (S k n0) :: st) S mc ms Post) : PX G (MPic G m h0) d Y pc ls (.int i :: .ref (m + 1 + j) :: st) S mc ms Post := by
  intro h hp
  have hl := mA_len hj
  have hlt2 : n0 < 2 ^ 31 := by omega
  subst hi
  refine ax_iald hd (by have := hp.1; omega) (by have := hp.2.1; omega) (hp.2.2.2.2.1 j k 0 n hj) (vp_in_nI hlt hn) ?_
  rw [nI_clamp hlt2]
  exact kk h hp
theorem mx_iast {j k n : Nat} {i x : Int32} (n0 : Nat) (hd : decode Y.2.1 pc = .ok (.iastore, 1)) (hj : mA[j]? = some (k, 0, n)) (hi : i = nI n0) (hlt : n0 < n) (hn : n < 2 ^ 31) (kk : PX G (MPic G m h0) d Y (pc + 1) ls st (up2 S k n0 x) mc ms Post) : PX G (MPic G m h0) d Y pc ls (.int x :: .int i :: .ref (m + 1 + j) :: st) S mc ms Post := by
  intro h hp
  have hl := mA_len hj
  have hlt2 : n0 < 2 ^ 31 := by omega
  subst hi
  refine ax_iast hd (by have := hp.1; omega) (by have := hp.2.1; omega) (hp.2.2.2.2.1 j k 0 n hj) (vp_in_nI hlt hn) ?_
  rw [nI_clamp hlt2]
  exact kk _ (hp.ast _ hj)
theorem mx_bald {j k n : Nat} {i : Int32} (n0 : Nat) (hd : decode Y.2.1 pc = .ok (.baload, 1)) (hj : mA[j]? = some (k, 1, n)) (hi : i = nI n0) (hlt : n0 < n) (hn : n < 2 ^ 31) (kk : PX G (MPic G m h0) d Y (pc + 1) ls (.int (S k n0) :: st) S mc ms Post) : PX G (MPic G m h0) d Y pc ls (.int i :: .ref (m + 1 + j) :: st) S mc ms Post := by
  intro h hp
  have hl := mA_len hj
  have hlt2 : n0 < 2 ^ 31 := by omega
  subst hi
  refine ax_bald hd (by have := hp.1; omega) (by have := hp.2.1; omega) (hp.2.2.2.2.1 j k 1 n hj) (vp_in_nI hlt hn) ?_
  rw [nI_clamp hlt2]
  exact kk h hp
theorem mx_bast {j k n : Nat} {i x : Int32} (n0 : Nat) (hd : decode Y.2.1 pc = .ok (.bastore, 1)) (hj : mA[j]? = some (k, 1, n)) (hi : i = nI n0) (hlt : n0 < n) (hn : n < 2 ^ 31) (kk : PX G (MPic G m h0) d Y (pc + 1) ls st (up2 S k n0 (vp_nar .byte x)) mc ms Post) : PX G (MPic G m h0) d Y pc ls (.int x :: .int i :: .ref (m + 1 + j) :: st) S mc ms Post := by
  intro h hp
  have hl := mA_len hj
  have hlt2 : n0 < 2 ^ 31 := by omega
  subst hi
  refine ax_bast hd (by have := hp.1; omega) (by have := hp.2.1; omega) (hp.2.2.2.2.1 j k 1 n hj) (vp_in_nI hlt hn) ?_
  rw [nI_clamp hlt2]
  exact kk _ (hp.ast _ hj)
theorem mx_zald {j k n : Nat} {i : Int32} (n0 : Nat) (hd : decode Y.2.1 pc = .ok (.baload, 1)) (hj : mA[j]? = some (k, 2, n)) (hi : i = nI n0) (hlt : n0 < n) (hn : n < 2 ^ 31) (kk : PX G (MPic G m h0) d Y (pc + 1) ls (.int (S k n0) :: st) S mc ms Post) : PX G (MPic G m h0) d Y pc ls (.int i :: .ref (m + 1 + j) :: st) S mc ms Post := by
  intro h hp
  have hl := mA_len hj
  have hlt2 : n0 < 2 ^ 31 := by omega
  subst hi
  refine ax_zald hd (by have := hp.1; omega) (by have := hp.2.1; omega) (hp.2.2.2.2.1 j k 2 n hj) (vp_in_nI hlt hn) ?_
  rw [nI_clamp hlt2]
  exact kk h hp
theorem mx_zast {j k n : Nat} {i x : Int32} (n0 : Nat) (hd : decode Y.2.1 pc = .ok (.bastore, 1)) (hj : mA[j]? = some (k, 2, n)) (hi : i = nI n0) (hlt : n0 < n) (hn : n < 2 ^ 31) (kk : PX G (MPic G m h0) d Y (pc + 1) ls st (up2 S k n0 (vp_nar .boolean x)) mc ms Post) : PX G (MPic G m h0) d Y pc ls (.int x :: .int i :: .ref (m + 1 + j) :: st) S mc ms Post := by
  intro h hp
  have hl := mA_len hj
  have hlt2 : n0 < 2 ^ 31 := by omega
  subst hi
  refine ax_zast hd (by have := hp.1; omega) (by have := hp.2.1; omega) (hp.2.2.2.2.1 j k 2 n hj) (vp_in_nI hlt hn) ?_
  rw [nI_clamp hlt2]
  exact kk _ (hp.ast _ hj)
theorem mx_callI0 {d1 index : Nat} {Y' : Yt} {P : Int32 → MS → Prop} (hd : decode Y.2.1 pc = .ok (.invokevirtual index, 3)) (hl : cLLV Y.1.cls index Y' 0) (hcl : Y'.1.cls = RX12) (hC : PC G (MPic G m h0) d1 Y' [.ref m] S 0 0 (ri P)) (hdd : d1 + 1 ≤ d) (hcat : (st.map fun v => v.category).sum ≤ 8) (kk : ∀ x S', P x S' → PX G (MPic G m h0) d Y (pc + 3) ls (.int x :: st) S' mc ms Post) : PX G (MPic G m h0) d Y pc ls (.ref m :: st) S mc ms Post :=
  fun h hp => ax_budget (Nat.le_of_eq (Nat.zero_add mc)) (Nat.le_of_eq (Nat.zero_add ms)) (ax_callV hd hl hp.1 (by have := hp.2.1; omega) hp.2.2.2.1 (T := TX12) (N := 52) (by rw [hcl]; rfl) (av := []) rfl rfl hdd hcat (hC h hp) (fun r h' hq => by obtain ⟨S', hp', x, rfl, hP⟩ := hq; exact kk x S' hP h' hp'))
theorem mx_callV0 {d1 index : Nat} {Y' : Yt} {P : MS → Prop} (hd : decode Y.2.1 pc = .ok (.invokevirtual index, 3)) (hl : cLLV Y.1.cls index Y' 0) (hcl : Y'.1.cls = RX12) (hC : PC G (MPic G m h0) d1 Y' [.ref m] S 0 0 (rv P)) (hdd : d1 + 1 ≤ d) (hcat : (st.map fun v => v.category).sum ≤ 8) (kk : ∀ S', P S' → PX G (MPic G m h0) d Y (pc + 3) ls st S' mc ms Post) : PX G (MPic G m h0) d Y pc ls (.ref m :: st) S mc ms Post :=
  fun h hp => ax_budget (Nat.le_of_eq (Nat.zero_add mc)) (Nat.le_of_eq (Nat.zero_add ms)) (ax_callV hd hl hp.1 (by have := hp.2.1; omega) hp.2.2.2.1 (T := TX12) (N := 52) (by rw [hcl]; rfl) (av := []) rfl rfl hdd hcat (hC h hp) (fun r h' hq => by obtain ⟨S', hp', rfl, hP⟩ := hq; exact kk S' hP h' hp'))
theorem mx_callI1 {d1 index : Nat} {Y' : Yt} {v1 : Value} {P : Int32 → MS → Prop} (hd : decode Y.2.1 pc = .ok (.invokevirtual index, 3)) (hl : cLLV Y.1.cls index Y' 1) (hcl : Y'.1.cls = RX12) (hC : PC G (MPic G m h0) d1 Y' [.ref m, v1] S 0 0 (ri P)) (hdd : d1 + 1 ≤ d) (hcat : (st.map fun v => v.category).sum ≤ 8) (kk : ∀ x S', P x S' → PX G (MPic G m h0) d Y (pc + 3) ls (.int x :: st) S' mc ms Post) : PX G (MPic G m h0) d Y pc ls (v1 :: .ref m :: st) S mc ms Post :=
  fun h hp => ax_budget (Nat.le_of_eq (Nat.zero_add mc)) (Nat.le_of_eq (Nat.zero_add ms)) (ax_callV hd hl hp.1 (by have := hp.2.1; omega) hp.2.2.2.1 (T := TX12) (N := 52) (by rw [hcl]; rfl) (av := [v1]) rfl rfl hdd hcat (hC h hp) (fun r h' hq => by obtain ⟨S', hp', x, rfl, hP⟩ := hq; exact kk x S' hP h' hp'))
theorem mx_callV1 {d1 index : Nat} {Y' : Yt} {v1 : Value} {P : MS → Prop} (hd : decode Y.2.1 pc = .ok (.invokevirtual index, 3)) (hl : cLLV Y.1.cls index Y' 1) (hcl : Y'.1.cls = RX12) (hC : PC G (MPic G m h0) d1 Y' [.ref m, v1] S 0 0 (rv P)) (hdd : d1 + 1 ≤ d) (hcat : (st.map fun v => v.category).sum ≤ 8) (kk : ∀ S', P S' → PX G (MPic G m h0) d Y (pc + 3) ls st S' mc ms Post) : PX G (MPic G m h0) d Y pc ls (v1 :: .ref m :: st) S mc ms Post :=
  fun h hp => ax_budget (Nat.le_of_eq (Nat.zero_add mc)) (Nat.le_of_eq (Nat.zero_add ms)) (ax_callV hd hl hp.1 (by have := hp.2.1; omega) hp.2.2.2.1 (T := TX12) (N := 52) (by rw [hcl]; rfl) (av := [v1]) rfl rfl hdd hcat (hC h hp) (fun r h' hq => by obtain ⟨S', hp', rfl, hP⟩ := hq; exact kk S' hP h' hp'))
theorem mx_callI2 {d1 index : Nat} {Y' : Yt} {v1 v2 : Value} {P : Int32 → MS → Prop} (hd : decode Y.2.1 pc = .ok (.invokevirtual index, 3)) (hl : cLLV Y.1.cls index Y' 2) (hcl : Y'.1.cls = RX12) (hC : PC G (MPic G m h0) d1 Y' [.ref m, v1, v2] S 0 0 (ri P)) (hdd : d1 + 1 ≤ d) (hcat : (st.map fun v => v.category).sum ≤ 8) (kk : ∀ x S', P x S' → PX G (MPic G m h0) d Y (pc + 3) ls (.int x :: st) S' mc ms Post) : PX G (MPic G m h0) d Y pc ls (v2 :: v1 :: .ref m :: st) S mc ms Post :=
  fun h hp => ax_budget (Nat.le_of_eq (Nat.zero_add mc)) (Nat.le_of_eq (Nat.zero_add ms)) (ax_callV hd hl hp.1 (by have := hp.2.1; omega) hp.2.2.2.1 (T := TX12) (N := 52) (by rw [hcl]; rfl) (av := [v1, v2]) rfl rfl hdd hcat (hC h hp) (fun r h' hq => by obtain ⟨S', hp', x, rfl, hP⟩ := hq; exact kk x S' hP h' hp'))
theorem mx_callV2 {d1 index : Nat} {Y' : Yt} {v1 v2 : Value} {P : MS → Prop} (hd : decode Y.2.1 pc = .ok (.invokevirtual index, 3)) (hl : cLLV Y.1.cls index Y' 2) (hcl : Y'.1.cls = RX12) (hC : PC G (MPic G m h0) d1 Y' [.ref m, v1, v2] S 0 0 (rv P)) (hdd : d1 + 1 ≤ d) (hcat : (st.map fun v => v.category).sum ≤ 8) (kk : ∀ S', P S' → PX G (MPic G m h0) d Y (pc + 3) ls st S' mc ms Post) : PX G (MPic G m h0) d Y pc ls (v2 :: v1 :: .ref m :: st) S mc ms Post :=
  fun h hp => ax_budget (Nat.le_of_eq (Nat.zero_add mc)) (Nat.le_of_eq (Nat.zero_add ms)) (ax_callV hd hl hp.1 (by have := hp.2.1; omega) hp.2.2.2.1 (T := TX12) (N := 52) (by rw [hcl]; rfl) (av := [v1, v2]) rfl rfl hdd hcat (hC h hp) (fun r h' hq => by obtain ⟨S', hp', rfl, hP⟩ := hq; exact kk S' hP h' hp'))
theorem mx_callI3 {d1 index : Nat} {Y' : Yt} {v1 v2 v3 : Value} {P : Int32 → MS → Prop} (hd : decode Y.2.1 pc = .ok (.invokevirtual index, 3)) (hl : cLLV Y.1.cls index Y' 3) (hcl : Y'.1.cls = RX12) (hC : PC G (MPic G m h0) d1 Y' [.ref m, v1, v2, v3] S 0 0 (ri P)) (hdd : d1 + 1 ≤ d) (hcat : (st.map fun v => v.category).sum ≤ 8) (kk : ∀ x S', P x S' → PX G (MPic G m h0) d Y (pc + 3) ls (.int x :: st) S' mc ms Post) : PX G (MPic G m h0) d Y pc ls (v3 :: v2 :: v1 :: .ref m :: st) S mc ms Post :=
  fun h hp => ax_budget (Nat.le_of_eq (Nat.zero_add mc)) (Nat.le_of_eq (Nat.zero_add ms)) (ax_callV hd hl hp.1 (by have := hp.2.1; omega) hp.2.2.2.1 (T := TX12) (N := 52) (by rw [hcl]; rfl) (av := [v1, v2, v3]) rfl rfl hdd hcat (hC h hp) (fun r h' hq => by obtain ⟨S', hp', x, rfl, hP⟩ := hq; exact kk x S' hP h' hp'))
theorem mx_callV3 {d1 index : Nat} {Y' : Yt} {v1 v2 v3 : Value} {P : MS → Prop} (hd : decode Y.2.1 pc = .ok (.invokevirtual index, 3)) (hl : cLLV Y.1.cls index Y' 3) (hcl : Y'.1.cls = RX12) (hC : PC G (MPic G m h0) d1 Y' [.ref m, v1, v2, v3] S 0 0 (rv P)) (hdd : d1 + 1 ≤ d) (hcat : (st.map fun v => v.category).sum ≤ 8) (kk : ∀ S', P S' → PX G (MPic G m h0) d Y (pc + 3) ls st S' mc ms Post) : PX G (MPic G m h0) d Y pc ls (v3 :: v2 :: v1 :: .ref m :: st) S mc ms Post :=
  fun h hp => ax_budget (Nat.le_of_eq (Nat.zero_add mc)) (Nat.le_of_eq (Nat.zero_add ms)) (ax_callV hd hl hp.1 (by have := hp.2.1; omega) hp.2.2.2.1 (T := TX12) (N := 52) (by rw [hcl]; rfl) (av := [v1, v2, v3]) rfl rfl hdd hcat (hC h hp) (fun r h' hq => by obtain ⟨S', hp', rfl, hP⟩ := hq; exact kk S' hP h' hp'))
theorem mx_callI4 {d1 index : Nat} {Y' : Yt} {v1 v2 v3 v4 : Value} {P : Int32 → MS → Prop} (hd : decode Y.2.1 pc = .ok (.invokevirtual index, 3)) (hl : cLLV Y.1.cls index Y' 4) (hcl : Y'.1.cls = RX12) (hC : PC G (MPic G m h0) d1 Y' [.ref m, v1, v2, v3, v4] S 0 0 (ri P)) (hdd : d1 + 1 ≤ d) (hcat : (st.map fun v => v.category).sum ≤ 8) (kk : ∀ x S', P x S' → PX G (MPic G m h0) d Y (pc + 3) ls (.int x :: st) S' mc ms Post) : PX G (MPic G m h0) d Y pc ls (v4 :: v3 :: v2 :: v1 :: .ref m :: st) S mc ms Post :=
  fun h hp => ax_budget (Nat.le_of_eq (Nat.zero_add mc)) (Nat.le_of_eq (Nat.zero_add ms)) (ax_callV hd hl hp.1 (by have := hp.2.1; omega) hp.2.2.2.1 (T := TX12) (N := 52) (by rw [hcl]; rfl) (av := [v1, v2, v3, v4]) rfl rfl hdd hcat (hC h hp) (fun r h' hq => by obtain ⟨S', hp', x, rfl, hP⟩ := hq; exact kk x S' hP h' hp'))
theorem mx_callV4 {d1 index : Nat} {Y' : Yt} {v1 v2 v3 v4 : Value} {P : MS → Prop} (hd : decode Y.2.1 pc = .ok (.invokevirtual index, 3)) (hl : cLLV Y.1.cls index Y' 4) (hcl : Y'.1.cls = RX12) (hC : PC G (MPic G m h0) d1 Y' [.ref m, v1, v2, v3, v4] S 0 0 (rv P)) (hdd : d1 + 1 ≤ d) (hcat : (st.map fun v => v.category).sum ≤ 8) (kk : ∀ S', P S' → PX G (MPic G m h0) d Y (pc + 3) ls st S' mc ms Post) : PX G (MPic G m h0) d Y pc ls (v4 :: v3 :: v2 :: v1 :: .ref m :: st) S mc ms Post :=
  fun h hp => ax_budget (Nat.le_of_eq (Nat.zero_add mc)) (Nat.le_of_eq (Nat.zero_add ms)) (ax_callV hd hl hp.1 (by have := hp.2.1; omega) hp.2.2.2.1 (T := TX12) (N := 52) (by rw [hcl]; rfl) (av := [v1, v2, v3, v4]) rfl rfl hdd hcat (hC h hp) (fun r h' hq => by obtain ⟨S', hp', rfl, hP⟩ := hq; exact kk S' hP h' hp'))
theorem mx_callI5 {d1 index : Nat} {Y' : Yt} {v1 v2 v3 v4 v5 : Value} {P : Int32 → MS → Prop} (hd : decode Y.2.1 pc = .ok (.invokevirtual index, 3)) (hl : cLLV Y.1.cls index Y' 5) (hcl : Y'.1.cls = RX12) (hC : PC G (MPic G m h0) d1 Y' [.ref m, v1, v2, v3, v4, v5] S 0 0 (ri P)) (hdd : d1 + 1 ≤ d) (hcat : (st.map fun v => v.category).sum ≤ 8) (kk : ∀ x S', P x S' → PX G (MPic G m h0) d Y (pc + 3) ls (.int x :: st) S' mc ms Post) : PX G (MPic G m h0) d Y pc ls (v5 :: v4 :: v3 :: v2 :: v1 :: .ref m :: st) S mc ms Post :=
  fun h hp => ax_budget (Nat.le_of_eq (Nat.zero_add mc)) (Nat.le_of_eq (Nat.zero_add ms)) (ax_callV hd hl hp.1 (by have := hp.2.1; omega) hp.2.2.2.1 (T := TX12) (N := 52) (by rw [hcl]; rfl) (av := [v1, v2, v3, v4, v5]) rfl rfl hdd hcat (hC h hp) (fun r h' hq => by obtain ⟨S', hp', x, rfl, hP⟩ := hq; exact kk x S' hP h' hp'))
theorem mx_callV5 {d1 index : Nat} {Y' : Yt} {v1 v2 v3 v4 v5 : Value} {P : MS → Prop} (hd : decode Y.2.1 pc = .ok (.invokevirtual index, 3)) (hl : cLLV Y.1.cls index Y' 5) (hcl : Y'.1.cls = RX12) (hC : PC G (MPic G m h0) d1 Y' [.ref m, v1, v2, v3, v4, v5] S 0 0 (rv P)) (hdd : d1 + 1 ≤ d) (hcat : (st.map fun v => v.category).sum ≤ 8) (kk : ∀ S', P S' → PX G (MPic G m h0) d Y (pc + 3) ls st S' mc ms Post) : PX G (MPic G m h0) d Y pc ls (v5 :: v4 :: v3 :: v2 :: v1 :: .ref m :: st) S mc ms Post :=
  fun h hp => ax_budget (Nat.le_of_eq (Nat.zero_add mc)) (Nat.le_of_eq (Nat.zero_add ms)) (ax_callV hd hl hp.1 (by have := hp.2.1; omega) hp.2.2.2.1 (T := TX12) (N := 52) (by rw [hcl]; rfl) (av := [v1, v2, v3, v4, v5]) rfl rfl hdd hcat (hC h hp) (fun r h' hq => by obtain ⟨S', hp', rfl, hP⟩ := hq; exact kk S' hP h' hp'))
theorem mx_callI6 {d1 index : Nat} {Y' : Yt} {v1 v2 v3 v4 v5 v6 : Value} {P : Int32 → MS → Prop} (hd : decode Y.2.1 pc = .ok (.invokevirtual index, 3)) (hl : cLLV Y.1.cls index Y' 6) (hcl : Y'.1.cls = RX12) (hC : PC G (MPic G m h0) d1 Y' [.ref m, v1, v2, v3, v4, v5, v6] S 0 0 (ri P)) (hdd : d1 + 1 ≤ d) (hcat : (st.map fun v => v.category).sum ≤ 8) (kk : ∀ x S', P x S' → PX G (MPic G m h0) d Y (pc + 3) ls (.int x :: st) S' mc ms Post) : PX G (MPic G m h0) d Y pc ls (v6 :: v5 :: v4 :: v3 :: v2 :: v1 :: .ref m :: st) S mc ms Post :=
  fun h hp => ax_budget (Nat.le_of_eq (Nat.zero_add mc)) (Nat.le_of_eq (Nat.zero_add ms)) (ax_callV hd hl hp.1 (by have := hp.2.1; omega) hp.2.2.2.1 (T := TX12) (N := 52) (by rw [hcl]; rfl) (av := [v1, v2, v3, v4, v5, v6]) rfl rfl hdd hcat (hC h hp) (fun r h' hq => by obtain ⟨S', hp', x, rfl, hP⟩ := hq; exact kk x S' hP h' hp'))
theorem mx_callV6 {d1 index : Nat} {Y' : Yt} {v1 v2 v3 v4 v5 v6 : Value} {P : MS → Prop} (hd : decode Y.2.1 pc = .ok (.invokevirtual index, 3)) (hl : cLLV Y.1.cls index Y' 6) (hcl : Y'.1.cls = RX12) (hC : PC G (MPic G m h0) d1 Y' [.ref m, v1, v2, v3, v4, v5, v6] S 0 0 (rv P)) (hdd : d1 + 1 ≤ d) (hcat : (st.map fun v => v.category).sum ≤ 8) (kk : ∀ S', P S' → PX G (MPic G m h0) d Y (pc + 3) ls st S' mc ms Post) : PX G (MPic G m h0) d Y pc ls (v6 :: v5 :: v4 :: v3 :: v2 :: v1 :: .ref m :: st) S mc ms Post :=
  fun h hp => ax_budget (Nat.le_of_eq (Nat.zero_add mc)) (Nat.le_of_eq (Nat.zero_add ms)) (ax_callV hd hl hp.1 (by have := hp.2.1; omega) hp.2.2.2.1 (T := TX12) (N := 52) (by rw [hcl]; rfl) (av := [v1, v2, v3, v4, v5, v6]) rfl rfl hdd hcat (hC h hp) (fun r h' hq => by obtain ⟨S', hp', rfl, hP⟩ := hq; exact kk S' hP h' hp'))
theorem mx_callI7 {d1 index : Nat} {Y' : Yt} {v1 v2 v3 v4 v5 v6 v7 : Value} {P : Int32 → MS → Prop} (hd : decode Y.2.1 pc = .ok (.invokevirtual index, 3)) (hl : cLLV Y.1.cls index Y' 7) (hcl : Y'.1.cls = RX12) (hC : PC G (MPic G m h0) d1 Y' [.ref m, v1, v2, v3, v4, v5, v6, v7] S 0 0 (ri P)) (hdd : d1 + 1 ≤ d) (hcat : (st.map fun v => v.category).sum ≤ 8) (kk : ∀ x S', P x S' → PX G (MPic G m h0) d Y (pc + 3) ls (.int x :: st) S' mc ms Post) : PX G (MPic G m h0) d Y pc ls (v7 :: v6 :: v5 :: v4 :: v3 :: v2 :: v1 :: .ref m :: st) S mc ms Post :=
  fun h hp => ax_budget (Nat.le_of_eq (Nat.zero_add mc)) (Nat.le_of_eq (Nat.zero_add ms)) (ax_callV hd hl hp.1 (by have := hp.2.1; omega) hp.2.2.2.1 (T := TX12) (N := 52) (by rw [hcl]; rfl) (av := [v1, v2, v3, v4, v5, v6, v7]) rfl rfl hdd hcat (hC h hp) (fun r h' hq => by obtain ⟨S', hp', x, rfl, hP⟩ := hq; exact kk x S' hP h' hp'))
theorem mx_callV7 {d1 index : Nat} {Y' : Yt} {v1 v2 v3 v4 v5 v6 v7 : Value} {P : MS → Prop} (hd : decode Y.2.1 pc = .ok (.invokevirtual index, 3)) (hl : cLLV Y.1.cls index Y' 7) (hcl : Y'.1.cls = RX12) (hC : PC G (MPic G m h0) d1 Y' [.ref m, v1, v2, v3, v4, v5, v6, v7] S 0 0 (rv P)) (hdd : d1 + 1 ≤ d) (hcat : (st.map fun v => v.category).sum ≤ 8) (kk : ∀ S', P S' → PX G (MPic G m h0) d Y (pc + 3) ls st S' mc ms Post) : PX G (MPic G m h0) d Y pc ls (v7 :: v6 :: v5 :: v4 :: v3 :: v2 :: v1 :: .ref m :: st) S mc ms Post :=
  fun h hp => ax_budget (Nat.le_of_eq (Nat.zero_add mc)) (Nat.le_of_eq (Nat.zero_add ms)) (ax_callV hd hl hp.1 (by have := hp.2.1; omega) hp.2.2.2.1 (T := TX12) (N := 52) (by rw [hcl]; rfl) (av := [v1, v2, v3, v4, v5, v6, v7]) rfl rfl hdd hcat (hC h hp) (fun r h' hq => by obtain ⟨S', hp', rfl, hP⟩ := hq; exact kk S' hP h' hp'))
end MXr
