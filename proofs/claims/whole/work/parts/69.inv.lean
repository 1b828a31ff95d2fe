/-! THE LAW'S INVARIANT -/
def J1 (S : MS) (n : Nat) : Prop := S 1 0 = nI n ∧ n ≤ 6
def J2 (S : MS) (nc : Nat) : Prop := S 6 0 = nI nc ∧ nc ≤ 8
def J3 (S : MS) (nt : Nat) : Prop := S 16 0 = nI nt ∧ 1 ≤ nt ∧ nt ≤ 6
def J4 (S : MS) (nt t : Nat) : Prop := S 17 0 = nI t ∧ t < nt ∧ S 60 0 = nI t
def J5 (S : MS) (tp : Nat) : Prop := S 15 0 = nI tp ∧ tp ≤ 160 ∧ ∀ i, (S 14 i).toInt8.toInt32 = S 14 i
def J7 (S : MS) (B : Nat) : Prop := ∀ i, i < 6 → (∃ a, a ≤ B ∧ S 2 i = nI a) ∧ (∃ a, a ≤ B ∧ S 43 i = nI a)
def J8 (S : MS) (nc : Nat) : Prop := ∀ c, c < nc → KO S c ∧ TKB S c
def J11 (S : MS) : Prop := ∀ i, i < 8 → (S 11 i = 0 ∨ S 11 i = 1) ∧ (S 45 i = 0 ∨ S 45 i = 1) ∧ (∃ p, p < 7776 ∧ S 12 i = nI p) ∧ (∃ p, p < 7776 ∧ S 46 i = nI p)
def J12 (S : MS) (nc nt kh kc kt : Nat) : Prop := S 40 0 = nI kh ∧ kh ≤ 6 ∧ S 41 0 = nI kc ∧ kc ≤ nc ∧ S 42 0 = nI kt ∧ kt < nt ∧ ∀ v, v < 9 → ∃ b, b ≤ 50 ∧ S 44 v = nI b
/-- of a state, so many coats, texts; ounces at most B -/
def INV (S : MS) (nc nt B : Nat) : Prop := ∃ n t tp kh kc kt, J1 S n ∧ J2 S nc ∧ J3 S nt ∧ J4 S nt t ∧ J5 S tp ∧ WB S ∧ J7 S B ∧ J8 S nc ∧ ATX S nt ∧ ZC S nc ∧ J11 S ∧ J12 S nc nt kh kc kt ∧ SHI S
section Jg
variable {S T : MS} {n nc nt t tp kh kc kt B B' : Nat}
theorem J1.go (h : J1 S n) (e : T 1 = S 1) : J1 T n := by unfold J1; rw [e]; exact h
theorem J2.go (h : J2 S nc) (e : T 6 = S 6) : J2 T nc := by unfold J2; rw [e]; exact h
theorem J3.go (h : J3 S nt) (e : T 16 = S 16) : J3 T nt := by unfold J3; rw [e]; exact h
theorem J4.go (h : J4 S nt t) (e : T 17 = S 17) (e2 : T 60 = S 60) : J4 T nt t := by unfold J4; rw [e, e2]; exact h
theorem J5.go (h : J5 S tp) (e : T 14 = S 14) (e2 : T 15 = S 15) : J5 T tp := by unfold J5; rw [e, e2]; exact h
theorem J6.go (h : WB S) (e3 : T 3 = S 3) (e4 : T 4 = S 4) (e5 : T 5 = S 5) : WB T := by unfold WB; rw [e3, e4, e5]; exact h
theorem J7.go (h : J7 S B) (hB : B ≤ B') (e : T 2 = S 2) (e2 : T 43 = S 43) : J7 T B' := fun i hi => by
  obtain ⟨⟨a, a1, a2⟩, b, b1, b2⟩ := h i hi
  rw [e, e2]
  exact ⟨⟨a, by omega, a2⟩, b, by omega, b2⟩
theorem mTk_3 {c : Nat} {p : Int32} (e7 : T 7 c = S 7 c) (e8 : T 8 c = S 8 c) (e9 : T 9 c = S 9 c) : mTk T c p = mTk S c p := by unfold mTk mPl; rw [e7, e8, e9]
theorem J8.go1 {c : Nat} (h : KO S c ∧ TKB S c) (e7 : T 7 c = S 7 c) (e8 : T 8 c = S 8 c) (e9 : T 9 c = S 9 c) : KO T c ∧ TKB T c := ⟨by unfold KO; rw [e7]; exact h.1, fun k hk => by rw [mTk_3 e7 e8 e9]; exact h.2 k hk⟩
theorem J8.go (h : J8 S nc) (e7 : T 7 = S 7) (e8 : T 8 = S 8) (e9 : T 9 = S 9) : J8 T nc := fun c hc => J8.go1 (h c hc) (by rw [e7]) (by rw [e8]) (by rw [e9])
theorem J9.go (h : ATX S nt) (hn : nt ≤ 6) (e18 : T 18 = S 18) (e19 : T 19 = S 19) (e20 : T 20 = S 20) (e : T 160 = S 160) (ej : ∀ j, j < 6 → T (70 + j) = S (70 + j) ∧ T (150 + j) = S (150 + j)) : ATX T nt := atx_go h hn (fun k _ => by rw [e18, e19]; exact ⟨rfl, rfl⟩) (fun k _ => by rw [e20]) (fun j hj => by rw [e, (ej j (by omega)).1, (ej j (by omega)).2]; exact ⟨rfl, rfl, rfl⟩)
theorem J10.go (h : ZC S nc) (e1 : T 11 = S 11) (e2 : T 12 = S 12) (e3 : T 13 = S 13) (e4 : T 45 = S 45) (e5 : T 46 = S 46) (e6 : T 47 = S 47) : ZC T nc := by unfold ZC; rw [e1, e2, e3, e4, e5, e6]; exact h
theorem J11.go (h : J11 S) (e1 : T 11 = S 11) (e2 : T 12 = S 12) (e4 : T 45 = S 45) (e5 : T 46 = S 46) : J11 T := by unfold J11; rw [e1, e2, e4, e5]; exact h
theorem J12.go (h : J12 S nc nt kh kc kt) (e1 : T 40 = S 40) (e2 : T 41 = S 41) (e3 : T 42 = S 42) (e4 : T 44 = S 44) : J12 T nc nt kh kc kt := by unfold J12; rw [e1, e2, e3, e4]; exact h
/-- what the invariant speaks of stays -/
def agr (S T : MS) : Prop := fk S T ∧ T 60 = S 60 ∧ T 160 = S 160 ∧ (∀ j, j < 6 → T (70 + j) = S (70 + j) ∧ T (150 + j) = S (150 + j)) ∧ ∀ s, s < 4 → T (110 + s) = S (110 + s)
theorem agr.tr {U : MS} (h : agr S T) (h2 : agr T U) : agr S U := ⟨fun k hk => (h2.1 k hk).trans (h.1 k hk), h2.2.1.trans h.2.1, h2.2.2.1.trans h.2.2.1, fun j hj => ⟨(h2.2.2.2.1 j hj).1.trans (h.2.2.2.1 j hj).1, (h2.2.2.2.1 j hj).2.trans (h.2.2.2.1 j hj).2⟩, fun s hs => (h2.2.2.2.2 s hs).trans (h.2.2.2.2 s hs)⟩
theorem INV.go (h : INV S nc nt B) (hB : B ≤ B') (a : agr S T) : INV T nc nt B' := by
  obtain ⟨n, t, tp, kh, kc, kt, j1, j2, j3, j4, j5, j6, j7, j8, j9, j10, j11, j12, j13⟩ := h
  obtain ⟨f, e60, e160, ej, es⟩ := a
  have f1 := f 1 (by decide)
  have f2 := f 2 (by decide)
  have f3 := f 3 (by decide)
  have f4 := f 4 (by decide)
  have f5 := f 5 (by decide)
  have f6 := f 6 (by decide)
  have f7 := f 7 (by decide)
  have f8 := f 8 (by decide)
  have f9 := f 9 (by decide)
  have f11 := f 11 (by decide)
  have f12 := f 12 (by decide)
  have f13 := f 13 (by decide)
  have f14 := f 14 (by decide)
  have f15 := f 15 (by decide)
  have f16 := f 16 (by decide)
  have f17 := f 17 (by decide)
  have f18 := f 18 (by decide)
  have f19 := f 19 (by decide)
  have f20 := f 20 (by decide)
  have f40 := f 40 (by decide)
  have f41 := f 41 (by decide)
  have f42 := f 42 (by decide)
  have f43 := f 43 (by decide)
  have f44 := f 44 (by decide)
  have f45 := f 45 (by decide)
  have f46 := f 46 (by decide)
  have f47 := f 47 (by decide)
  have f48 := f 48 (by decide)
  have f49 := f 49 (by decide)
  have f50 := f 50 (by decide)
  exact ⟨n, t, tp, kh, kc, kt, j1.go f1, j2.go f6, j3.go f16, j4.go f17 e60, j5.go f14 f15, J6.go j6 f3 f4 f5, j7.go hB f2 f43, j8.go f7 f8 f9, J9.go j9 j3.2.2 f18 f19 f20 e160 ej, J10.go j10 f11 f12 f13 f45 f46 f47, j11.go f11 f12 f45 f46, j12.go f40 f41 f42 f44, shI_c j13 f48 f49 f50 es⟩
theorem upd_all {N j : Nat} {g : Nat → Int32} {x : Int32} {P : Int32 → Prop} (h : ∀ i, i < N → P (g i)) (hx : P x) : ∀ i, i < N → P (upd g j x i) := fun i hi => by
  by_cases e : i = j
  · subst e; rw [pk_us]; exact hx
  · rw [pk_un e]; exact h i hi
theorem nIle {v : Int32} {b c : Nat} (hb : b ≤ 100000) (h : ¬ mIn v 0 (nI b) = 0) (hc : b ≤ c) : ∃ a, a ≤ c ∧ v = nI a := by
  obtain ⟨j, h1, h2, -⟩ := in_ix hb h
  exact ⟨j, by omega, h2⟩
/-- hanks come -/
theorem inv_hank {o s v : Int32} (h : INV S nc nt B) (hB : 99 ≤ B) : INV (f_hank S o s v).2 nc nt B := by
  unfold f_hank
  split
  · exact h
  · rename_i hi
    split
    · exact h
    · rename_i h6
      obtain ⟨n, t, tp, kh, kc, kt, j1, j2, j3, j4, j5, j6, j7, j8, j9, j10, j11, j12, j13⟩ := h
      have hn : hN S = n := hN_eq j1.1 (by have := j1.2; omega)
      have n6 : n < 6 := by
        rcases Nat.lt_or_ge n 6 with q | q
        · exact q
        · exact absurd (by rw [j1.1, show n = 6 by have := j1.2; omega]; rfl) h6
      have i1 : ¬ mIn o 0 (nI 99) = 0 := fun q => hi (Or.inl q)
      have i2 : ¬ mIn s 0 (nI 99) = 0 := fun q => hi (Or.inr (Or.inl q))
      have i3 : ¬ mIn v 0 (nI 8) = 0 := fun q => hi (Or.inr (Or.inr q))
      obtain ⟨w1, w2, w3⟩ := j6
      refine ⟨n + 1, t, tp, kh, kc, kt, ⟨?_, n6⟩, j2.go rfl, j3.go rfl, j4.go rfl rfl, j5.go rfl rfl, ⟨?_, w2, ?_⟩, fun i hi => ⟨?_, (j7 i hi).2⟩, j8.go rfl rfl rfl, J9.go j9 j3.2.2 rfl rfl rfl rfl (fun j hj => ⟨((up2_ne (by omega)).trans ((up2_ne (by omega)).trans ((up2_ne (by omega)).trans (up2_ne (by omega))))), ((up2_ne (by omega)).trans ((up2_ne (by omega)).trans ((up2_ne (by omega)).trans (up2_ne (by omega)))))⟩), J10.go j10 rfl rfl rfl rfl rfl rfl, j11.go rfl rfl rfl rfl, j12.go rfl rfl rfl rfl, shI_c j13 rfl rfl rfl (fun s hs => ((up2_ne (by omega)).trans ((up2_ne (by omega)).trans ((up2_ne (by omega)).trans (up2_ne (by omega))))))⟩
      · show S 1 0 + 1 = _
        rw [j1.1, nI_1]
      · exact upd_all (P := fun x => ∃ a, a ≤ 99 ∧ x = nI a) w1 (nIle (by decide) i2 (Nat.le_refl _))
      · exact upd_all (P := fun x => ∃ v, v < 9 ∧ x = nI v) w3 (by obtain ⟨j, a1, a2, -⟩ := in_ix (by decide) i3; exact ⟨j, by omega, a2⟩)
      · exact upd_all (P := fun x => ∃ a, a ≤ B ∧ x = nI a) (fun i hi => (j7 i hi).1) (nIle (by decide) i1 hB) i hi
theorem inv_ounces {h9 q : Int32} (h : INV S nc nt B) (hB : 99 ≤ B) : INV (f_ounces S h9 q).2 nc nt B := by
  unfold f_ounces
  split
  · exact h
  · rename_i hi
    obtain ⟨n, t, tp, kh, kc, kt, j1, j2, j3, j4, j5, j6, j7, j8, j9, j10, j11, j12, j13⟩ := h
    have i1 : ¬ mIn q 0 (nI 99) = 0 := fun q => hi (Or.inr q)
    refine ⟨n, t, tp, kh, kc, kt, j1.go rfl, j2.go rfl, j3.go rfl, j4.go rfl rfl, j5.go rfl rfl, J6.go j6 rfl rfl rfl, fun i hi => ⟨?_, (j7 i hi).2⟩, j8.go rfl rfl rfl, J9.go j9 j3.2.2 rfl rfl rfl rfl (fun j hj => ⟨up2_ne (by omega), up2_ne (by omega)⟩), J10.go j10 rfl rfl rfl rfl rfl rfl, j11.go rfl rfl rfl rfl, j12.go rfl rfl rfl rfl, shI_c j13 rfl rfl rfl (fun s hs => up2_ne (by omega))⟩
    exact upd_all (P := fun x => ∃ a, a ≤ B ∧ x = nI a) (fun i hi => (j7 i hi).1) (nIle (by decide) i1 hB) i hi
theorem inv_fade {v q : Int32} (h : INV S nc nt B) : INV (f_fade S v q).2 nc nt B := by
  unfold f_fade
  split
  · exact h
  · rename_i hi
    obtain ⟨n, t, tp, kh, kc, kt, j1, j2, j3, j4, j5, j6, j7, j8, j9, j10, j11, j12, j13⟩ := h
    have i1 : ¬ mIn q 0 (nI 50) = 0 := fun q => hi (Or.inr q)
    obtain ⟨w1, w2, w3⟩ := j6
    refine ⟨n, t, tp, kh, kc, kt, j1.go rfl, j2.go rfl, j3.go rfl, j4.go rfl rfl, j5.go rfl rfl, ⟨w1, ?_, w3⟩, j7.go (Nat.le_refl _) rfl rfl, j8.go rfl rfl rfl, J9.go j9 j3.2.2 rfl rfl rfl rfl (fun j hj => ⟨up2_ne (by omega), up2_ne (by omega)⟩), J10.go j10 rfl rfl rfl rfl rfl rfl, j11.go rfl rfl rfl rfl, j12.go rfl rfl rfl rfl, shI_c j13 rfl rfl rfl (fun s hs => up2_ne (by omega))⟩
    exact upd_all (P := fun x => ∃ a, a ≤ 50 ∧ x = nI a) w2 (nIle (by decide) i1 (Nat.le_refl _))
theorem inv_feed {z : Int32} {b : Int64} (h : INV S nc nt B) : INV (f_feed S z b).2 nc nt B := by
  unfold f_feed
  split
  · exact h
  · rename_i hi
    split
    · exact h
    · rename_i h160
      obtain ⟨n, t, tp, kh, kc, kt, j1, j2, j3, j4, j5, j6, j7, j8, j9, j10, j11, j12, j13⟩ := h
      obtain ⟨j, a1, a2⟩ : ∃ j, j ≤ 8 ∧ z = nI j := by
        obtain ⟨h1, h2⟩ := mIn_1.mp hi
        rw [i_lt, show (1 : Int32).toInt = 1 from rfl] at h1
        rw [i_lt, show (8 : Int32).toInt = 8 from rfl] at h2
        exact ⟨z.toInt.toNat, by omega, by rw [i_eq, nI_toInt' (by omega)]; omega⟩
      obtain ⟨t1, t2, t3⟩ := j5
      have e1 : S 15 0 + z = nI (tp + j) := by rw [t1, a2, nI_add]
      have l1 : tp + j ≤ 160 := by
        rw [e1] at h160
        exact ge_n (a := 160) (b := tp + j) (by omega) (by omega) h160
      refine ⟨n, t, tp + j, kh, kc, kt, j1.go rfl, j2.go rfl, j3.go rfl, j4.go rfl rfl, ⟨?_, l1, fun i => ?_⟩, J6.go j6 rfl rfl rfl, j7.go (Nat.le_refl _) rfl rfl, j8.go rfl rfl rfl, J9.go j9 j3.2.2 rfl rfl rfl rfl (fun j hj => ⟨(up2_ne (by omega)).trans (setA_ne (by omega)), (up2_ne (by omega)).trans (setA_ne (by omega))⟩), J10.go j10 rfl rfl rfl rfl rfl rfl, j11.go rfl rfl rfl rfl, j12.go rfl rfl rfl rfl, shI_c j13 rfl rfl rfl (fun s hs => (up2_ne (by omega)).trans (setA_ne (by omega)))⟩
      · dsimp only; rw [up2_eq, pk_us, e1]
      · dsimp only; rw [up2_ne (by decide), setA_eq]
        unfold fb_put
        split
        · unfold bOf; simp
        · exact t3 i
theorem inv_force {v : Int32} {S' : MS} (h : INV S nc nt B) (hS : S' = up2 (f_force S v).2 60 0 (if mIn v 0 (S 16 0 - 1) = 0 then S 17 0 else v)) : INV S' nc nt B := by
  subst hS
  unfold f_force
  obtain ⟨n, t, tp, kh, kc, kt, j1, j2, j3, j4, j5, j6, j7, j8, j9, j10, j11, j12, j13⟩ := h
  by_cases hi : mIn v 0 (S 16 0 - 1) = 0
  · rw [if_pos hi, if_pos hi]
    exact ⟨n, t, tp, kh, kc, kt, j1.go rfl, j2.go rfl, j3.go rfl, ⟨j4.1, j4.2.1, by show S 17 0 = _; exact j4.1⟩, j5.go rfl rfl, J6.go j6 rfl rfl rfl, j7.go (Nat.le_refl _) rfl rfl, j8.go rfl rfl rfl, J9.go j9 j3.2.2 rfl rfl rfl rfl (fun j hj => ⟨up2_ne (by omega), up2_ne (by omega)⟩), J10.go j10 rfl rfl rfl rfl rfl rfl, j11.go rfl rfl rfl rfl, j12.go rfl rfl rfl rfl, shI_c j13 rfl rfl rfl (fun s hs => up2_ne (by omega))⟩
  · rw [if_neg hi, if_neg hi]
    rw [j3.1] at hi
    obtain ⟨j, a1, a2⟩ := ix_of (n := nt) (by have := j3.2.2; omega) hi
    exact ⟨n, j, tp, kh, kc, kt, j1.go rfl, j2.go rfl, j3.go rfl, ⟨a2, a1, a2⟩, j5.go rfl rfl, J6.go j6 rfl rfl rfl, j7.go (Nat.le_refl _) rfl rfl, j8.go rfl rfl rfl, J9.go j9 j3.2.2 rfl rfl rfl rfl (fun j hj => ⟨(up2_ne (by omega)).trans (up2_ne (by omega)), (up2_ne (by omega)).trans (up2_ne (by omega))⟩), J10.go j10 rfl rfl rfl rfl rfl rfl, j11.go rfl rfl rfl rfl, j12.go rfl rfl rfl rfl, shI_c j13 rfl rfl rfl (fun s hs => (up2_ne (by omega)).trans (up2_ne (by omega)))⟩
/-- what a coat takes, of a new one -/
theorem tkb_new {c j sz nr : Nat} (hj : j ≤ 5) (h7 : S 7 c = nI j) (hs : sz ≤ 9) (h8 : S 8 c = nI sz) : TKB S c := fun k hk => by
  have hp : ∃ a, a ≤ 19 ∧ mPl S c (nI k) = nI a := by
    unfold mPl
    rw [h8]
    split
    · exact ⟨sz + 1, by omega, nI_1 ..⟩
    · split
      · exact ⟨2 * sz, by omega, by rw [show (2 : Int32) = nI 2 from rfl, pk_mul]⟩
      · exact ⟨1, by decide, rfl⟩
  obtain ⟨a, h1, h2⟩ := hp
  unfold mTk
  split
  · exact ⟨0, by decide, rfl⟩
  · split
    · exact ⟨a + 1, by omega, by rw [h2, nI_1]⟩
    · exact ⟨a, by omega, h2⟩
theorem inv_coat {k s r : Int32} (h : INV S nc nt B) {nc' : Nat} (hc : (f_coat S k s r).2 6 0 = nI nc') (h8 : nc' ≤ 8) : INV (f_coat S k s r).2 nc' nt B := by
  have h' := h
  obtain ⟨n, t, tp, kh, kc, kt, j1, j2, j3, j4, j5, j6, j7, j8, j9, j10, j11, j12, j13⟩ := h
  have same : (f_coat S k s r).2 = S → INV (f_coat S k s r).2 nc' nt B := fun e => by
    rw [e] at hc ⊢
    rw [j2.1] at hc
    have : nc = nc' := eq_n (by have := j2.2; omega) (by omega) hc
    rw [← this]; exact h'
  by_cases hi : mIn k 0 5 = 0 ∨ mIn s 1 9 = 0 ∨ r < 0 ∨ 20 < r / 1000
  · exact same (by rw [f_coat, if_pos hi])
  by_cases h68 : S 6 0 = 8
  · exact same (by rw [f_coat, if_neg hi, if_pos h68])
  have eF : (f_coat S k s r).2 = up2 (up2 (up2 (up2 (up2 (up2 S 7 (cN S) k) 8 (cN S) s) 9 (cN S) (r / 1000)) 10 (cN S) (r - r / 1000 * 1000)) 11 (cN S) 0) 6 0 (S 6 0 + 1) := by rw [f_coat, if_neg hi, if_neg h68]
  rw [eF] at hc ⊢
  have ec : cN S = nc := cN_eq j2.1 (by have := j2.2; omega)
  have l8 : nc < 8 := by
    rcases Nat.lt_or_ge nc 8 with q | q
    · exact q
    · exact absurd (by rw [j2.1, show nc = 8 by have := j2.2; omega]; rfl) h68
  have hc2 : S 6 0 + 1 = nI nc' := hc
  rw [j2.1, nI_1] at hc2
  obtain rfl : nc + 1 = nc' := eq_n (by omega) (by omega) hc2
  obtain ⟨a, a1, a2, -⟩ := in_ix (n := 5) (by decide) (fun q => hi (Or.inl q))
  obtain ⟨z, z1, z2⟩ : ∃ z, z ≤ 9 ∧ s = nI z := by
    obtain ⟨h1, h2⟩ := mIn_1.mp (fun q => hi (Or.inr (Or.inl q)))
    rw [i_lt, show (1 : Int32).toInt = 1 from rfl] at h1
    rw [i_lt, show (9 : Int32).toInt = 9 from rfl] at h2
    exact ⟨s.toInt.toNat, by omega, by rw [i_eq, nI_toInt' (by omega)]; omega⟩
  rw [ec]
  generalize hF : up2 (up2 (up2 (up2 (up2 (up2 S 7 nc k) 8 nc s) 9 nc (r / 1000)) 10 nc (r - r / 1000 * 1000)) 11 nc 0) 6 0 (S 6 0 + 1) = F
  have g7 : F 7 = upd (S 7) nc k := by rw [← hF]; rfl
  have g8 : F 8 = upd (S 8) nc s := by rw [← hF]; rfl
  have g9 : F 9 = upd (S 9) nc (r / 1000) := by rw [← hF]; rfl
  have g11 : F 11 = upd (S 11) nc 0 := by rw [← hF]; rfl
  have g6 : F 6 0 = S 6 0 + 1 := by rw [← hF]; rfl
  have gr : ∀ q, q ≠ 6 → q ≠ 7 → q ≠ 8 → q ≠ 9 → q ≠ 10 → q ≠ 11 → F q = S q := fun q h6 h7 h8 h9 h10 h11 => by rw [← hF, up2_ne h6, up2_ne h11, up2_ne h10, up2_ne h9, up2_ne h8, up2_ne h7]
  have g : ∀ q, (q < 6 ∨ 11 < q) → F q = S q := fun q hq => gr q (by omega) (by omega) (by omega) (by omega) (by omega) (by omega)
  refine ⟨n, t, tp, kh, kc, kt, j1.go (g _ (by decide)), ⟨by rw [g6, j2.1, nI_1], h8⟩, j3.go (g _ (by decide)), j4.go (g _ (by decide)) (g _ (by decide)), j5.go (g _ (by decide)) (g _ (by decide)), J6.go j6 (g _ (by decide)) (g _ (by decide)) (g _ (by decide)), j7.go (Nat.le_refl _) (g _ (by decide)) (g _ (by decide)), fun c hc => ?_, J9.go j9 j3.2.2 (g _ (by decide)) (g _ (by decide)) (g _ (by decide)) (g _ (by decide)) (fun j hj => ⟨g _ (by omega), g _ (by omega)⟩), fun c h1 h2 => ?_, fun i hi => ?_, ?_, shI_c j13 (g _ (by decide)) (g _ (by decide)) (g _ (by decide)) (fun s hs => g _ (by omega))⟩
  · by_cases e : c = nc
    · subst e
      have k7 : F 7 c = nI a := by rw [g7, pk_us, a2]
      refine ⟨?_, tkb_new (nr := 0) a1 k7 z1 (by rw [g8, pk_us, z2])⟩
      unfold KO
      rw [k7]
      rcases (by omega : a = 0 ∨ a = 1 ∨ a = 2 ∨ a = 3 ∨ a = 4 ∨ a = 5) with rfl | rfl | rfl | rfl | rfl | rfl
      · exact Or.inl rfl
      · exact Or.inr (Or.inl rfl)
      · exact Or.inr (Or.inr (Or.inl rfl))
      · exact Or.inr (Or.inr (Or.inr (Or.inl rfl)))
      · exact Or.inr (Or.inr (Or.inr (Or.inr (Or.inl rfl))))
      · exact Or.inr (Or.inr (Or.inr (Or.inr (Or.inr rfl))))
    · exact J8.go1 (j8 c (by omega)) (by rw [g7, pk_un e]) (by rw [g8, pk_un e]) (by rw [g9, pk_un e])
  · rw [g 12 (by decide), g 13 (by decide), g 45 (by decide), g 46 (by decide), g 47 (by decide), g11, pk_un (by omega)]
    exact j10 c (by omega) h2
  · rw [g 12 (by decide), g 45 (by decide), g 46 (by decide), g11]
    refine ⟨?_, (j11 i hi).2⟩
    by_cases e : i = nc
    · subst e; rw [pk_us]; exact Or.inl rfl
    · rw [pk_un e]; exact (j11 i hi).1
  · obtain ⟨b1, b2, b3, b4, b5, b6, b7⟩ := j12
    unfold J12
    rw [g 40 (by decide), g 41 (by decide), g 42 (by decide), g 44 (by decide)]
    exact ⟨b1, b2, b3, by omega, b5, b6, b7⟩
/-- what a coat takes off the ounces -/
theorem gv_n {c p h : Nat} (hT : TKB S c) : ∀ k, k ≤ 5 → ∃ g, g ≤ 20 * k ∧ gv5 S c p h k = nI g ∧ tkF S c p 1 k h = S 2 h - nI g ∧ ((∀ j, j < k → dg p j ≠ h) → g = 0)
  | 0, _ => ⟨0, Nat.le_refl _, rfl, by rw [tkF]; show _ = S 2 h - 0; rw [Int32.sub_zero], fun _ => rfl⟩
  | k + 1, hk => by
    obtain ⟨g, g1, g2, g3, g4⟩ := gv_n hT (p := p) (h := h) k (by omega)
    obtain ⟨a, a1, a2⟩ := hT k (by omega)
    by_cases e : dg p k = h
    · refine ⟨g + a, by omega, ?_, ?_, fun q => absurd e (q k (by omega))⟩
      · rw [gv5, if_pos e, g2, a2, nI_add]
      · rw [tkF, e, pk_us, g3, a2, Int32.one_mul, ← nI_add, Int32.sub_sub]
    · refine ⟨g, by omega, ?_, ?_, fun q => g4 (fun j hj => q j (by omega))⟩
      · rw [gv5, if_neg e, g2, Int32.add_zero]
      · rw [tkF, pk_un (Ne.symm e), g3]
theorem jd_ok {n c p : Nat} (hn : n ≤ 6) (h : jd S n c p = -1) : (∀ k, k < 5 → dg p k < n) ∧ ∀ h, h < n → ¬ S 2 h < gvn S c p h := by
  unfold jd at h
  have bad : ∀ a, a ≤ 100 → ¬ nI a = -1 := fun a ha q => by
    have e := congrArg Int32.toInt q
    rw [nI_toInt' (by omega), show (-1 : Int32).toInt = -1 from rfl] at e
    omega
  have f1le : ∀ (Pr : Nat → Bool) (m : Nat), f1 Pr m ≤ m := fun Pr m => fa_first_le Pr m
  by_cases h5 : f1 (w1 p n) 5 < 5
  · rw [if_pos h5] at h
    exact absurd h (bad _ (by omega))
  · rw [if_neg h5] at h
    have w1a := f1_all.mp (show f1 (w1 p n) 5 = 5 by have := f1le (w1 p n) 5; omega)
    by_cases h6 : f1 (w2 S c p) n < n
    · rw [if_pos h6] at h
      exact absurd h (bad _ (by omega))
    · have w2a := f1_all.mp (show f1 (w2 S c p) n = n by have := f1le (w2 S c p) n; omega)
      refine ⟨fun k hk => ?_, fun h hh => ?_⟩
      · have := w1a k hk
        unfold w1 at this
        have := of_decide_eq_false this
        omega
      · have := w2a h hh
        unfold w2 at this
        exact of_decide_eq_false this
/-- a row of coats changes at one that there is -/
theorem zc_up {r j : Nat} {x : Int32} (h : ZC S nc) (hj : j < nc) : ZC (up2 S r j x) nc := fun c h1 h2 => by
  have e : ∀ q, up2 S r j x q c = S q c := fun q => up2_j (by omega)
  rw [e, e, e, e, e, e]
  exact h c h1 h2
theorem inv_knit {c p day : Int32} (h : INV S nc nt B) (hB : B ≤ 100000) : INV (f_knit S c p day).2 nc nt B := by
  unfold f_knit
  split
  · exact h
  · rename_i hi
    split
    · exact h
    · split
      · rename_i hjd
        obtain ⟨n, t, tp, kh, kc, kt, j1, j2, j3, j4, j5, j6, j7, j8, j9, j10, j11, j12, j13⟩ := h
        obtain ⟨j, c1, c2, c3⟩ := ct_ix j2.1 j2.2 (fun q => hi (Or.inl q))
        obtain ⟨pp, p1, p2, p3⟩ := in_ix (n := 7775) (by decide) (fun q => hi (Or.inr (Or.inl q)))
        have hn : hN S = n := hN_eq j1.1 (by have := j1.2; omega)
        rw [hn, c3, p3] at hjd
        rw [c3, p3]
        obtain ⟨d1, d2⟩ := jd_ok j1.2 hjd
        have hT := (j8 j c1).2
        have tk : ∀ h, h < 6 → ∃ a, a ≤ B ∧ tkF S j pp 1 5 h = nI a := fun h hh => by
          obtain ⟨a, a1, a2⟩ := (j7 h hh).1
          obtain ⟨g, g1, g2, g3, g4⟩ := gv_n hT (p := pp) (h := h) 5 (Nat.le_refl _)
          by_cases q : h < n
          · have := d2 h q
            rw [a2, show gvn S j pp h = nI g from g2] at this
            have ga : g ≤ a := by
              rcases Nat.lt_or_ge a g with w | w
              · exact absurd ((nI_ltI (by omega) (by omega)).mpr w) this
              · exact w
            exact ⟨a - g, by omega, by rw [g3, a2, pk_sub ga]⟩
          · have := g4 (fun k hk => by have := d1 k hk; omega)
            subst this
            exact ⟨a, a1, by rw [g3, a2]; exact Int32.sub_zero _⟩
        generalize hF : up2 (up2 (up2 (setA S 2 (tkF S j pp 1 5)) 11 j 1) 12 j p) 13 j day = F
        show INV F nc nt B
        have g2 : F 2 = tkF S j pp 1 5 := by rw [← hF]; rfl
        have g11 : F 11 = upd (S 11) j 1 := by rw [← hF]; rfl
        have g12 : F 12 = upd (S 12) j p := by rw [← hF]; rfl
        have g13 : F 13 = upd (S 13) j day := by rw [← hF]; rfl
        have g : ∀ q, (q ≠ 2 ∧ q ≠ 11 ∧ q ≠ 12 ∧ q ≠ 13) → F q = S q := fun q ⟨q1, q2, q3, q4⟩ => by rw [← hF, up2_ne q4, up2_ne q3, up2_ne q2, setA_ne q1]
        refine ⟨n, t, tp, kh, kc, kt, j1.go (g _ (by decide)), j2.go (g _ (by decide)), j3.go (g _ (by decide)), j4.go (g _ (by decide)) (g _ (by decide)), j5.go (g _ (by decide)) (g _ (by decide)), J6.go j6 (g _ (by decide)) (g _ (by decide)) (g _ (by decide)), fun i hi => ⟨by rw [g2]; exact tk i hi, by rw [g 43 (by decide)]; exact (j7 i hi).2⟩, j8.go (g _ (by decide)) (g _ (by decide)) (g _ (by decide)), J9.go j9 j3.2.2 (g _ (by decide)) (g _ (by decide)) (g _ (by decide)) (g _ (by decide)) (fun j hj => ⟨g _ (by omega), g _ (by omega)⟩), fun c h1 h2 => ?_, fun i hi => ?_, j12.go (g _ (by decide)) (g _ (by decide)) (g _ (by decide)) (g _ (by decide)), shI_c j13 (g _ (by decide)) (g _ (by decide)) (g _ (by decide)) (fun s hs => g _ (by omega))⟩
        · rw [g11, g12, g13, g 45 (by decide), g 46 (by decide), g 47 (by decide), pk_un (by omega), pk_un (by omega), pk_un (by omega)]
          exact j10 c h1 h2
        · rw [g11, g12, g 45 (by decide), g 46 (by decide)]
          obtain ⟨q1, q2, q3, q4⟩ := j11 i hi
          refine ⟨?_, q2, ?_, q4⟩
          · by_cases e : i = j
            · subst e; rw [pk_us]; exact Or.inr rfl
            · rw [pk_un e]; exact q1
          · by_cases e : i = j
            · subst e; rw [pk_us]; exact ⟨pp, by omega, p2⟩
            · rw [pk_un e]; exact q3
      · exact h
/-- what comes back -/
theorem uF_n {c p h : Nat} (hT : TKB S c) (h2 : ∃ a, a ≤ B ∧ S 2 h = nI a) : ∀ k, k ≤ 5 → ∃ a, a ≤ B + 20 * k ∧ uF S c p k h = nI a
  | 0, _ => h2
  | k + 1, hk => by
    obtain ⟨a, a1, a2⟩ := uF_n hT h2 (p := p) k (by omega)
    obtain ⟨z, z1, z2⟩ := hT k (by omega)
    have hb : ∃ y, y ≤ 20 ∧ bk S c k = nI y := by
      unfold bk
      rw [z2]
      split
      · rename_i w
        have : 0 < z := (nI_ltI (a := 0) (by omega) (by omega)).mp w
        exact ⟨z - 1, by omega, nIs this⟩
      · exact ⟨0, by decide, rfl⟩
    obtain ⟨y, y1, y2⟩ := hb
    by_cases e : dg p k = h
    · exact ⟨a + y, by omega, by rw [uF, e, pk_us, a2, y2, nI_add]⟩
    · exact ⟨a, by omega, by rw [uF, pk_un (Ne.symm e), a2]⟩
theorem inv_undo {c : Int32} (h : INV S nc nt B) (hB : B + 100 ≤ B') : INV (f_undo S c).2 nc nt B' := by
  have h' := INV.go h (show B ≤ B' by omega) (T := S) ⟨fun _ _ => rfl, rfl, rfl, fun _ _ => ⟨rfl, rfl⟩, fun _ _ => rfl⟩
  unfold f_undo
  split
  · exact h'
  · rename_i hi
    split
    · exact h'
    · obtain ⟨n, t, tp, kh, kc, kt, j1, j2, j3, j4, j5, j6, j7, j8, j9, j10, j11, j12, j13⟩ := h
      obtain ⟨j, c1, c2, c3⟩ := ct_ix j2.1 j2.2 hi
      rw [c3]
      have hT := (j8 j c1).2
      generalize (S 12 j).toNatClampNeg = pp
      generalize hF : up2 (setA S 2 (uF S j pp 5)) 11 j 0 = F
      show INV F nc nt B'
      have g2 : F 2 = uF S j pp 5 := by rw [← hF]; rfl
      have g11 : F 11 = upd (S 11) j 0 := by rw [← hF]; rfl
      have g : ∀ q, (q ≠ 2 ∧ q ≠ 11) → F q = S q := fun q ⟨q1, q2⟩ => by rw [← hF, up2_ne q2, setA_ne q1]
      refine ⟨n, t, tp, kh, kc, kt, j1.go (g _ (by decide)), j2.go (g _ (by decide)), j3.go (g _ (by decide)), j4.go (g _ (by decide)) (g _ (by decide)), j5.go (g _ (by decide)) (g _ (by decide)), J6.go j6 (g _ (by decide)) (g _ (by decide)) (g _ (by decide)), fun i hi => ⟨?_, ?_⟩, j8.go (g _ (by decide)) (g _ (by decide)) (g _ (by decide)), J9.go j9 j3.2.2 (g _ (by decide)) (g _ (by decide)) (g _ (by decide)) (g _ (by decide)) (fun j hj => ⟨g _ (by omega), g _ (by omega)⟩), fun c h1 h2 => ?_, fun i hi => ?_, j12.go (g _ (by decide)) (g _ (by decide)) (g _ (by decide)) (g _ (by decide)), shI_c j13 (g _ (by decide)) (g _ (by decide)) (g _ (by decide)) (fun s hs => g _ (by omega))⟩
      · obtain ⟨a, a1, a2⟩ := uF_n hT (j7 i hi).1 (p := pp) 5 (Nat.le_refl _)
        exact ⟨a, by omega, by rw [g2]; exact a2⟩
      · obtain ⟨a, a1, a2⟩ := (j7 i hi).2
        exact ⟨a, by omega, by rw [g 43 (by decide)]; exact a2⟩
      · rw [g11, g 12 (by decide), g 13 (by decide), g 45 (by decide), g 46 (by decide), g 47 (by decide), pk_un (by omega)]
        exact j10 c h1 h2
      · rw [g11, g 12 (by decide), g 45 (by decide), g 46 (by decide)]
        obtain ⟨q1, q2, q3, q4⟩ := j11 i hi
        refine ⟨?_, q2, q3, q4⟩
        by_cases e : i = j
        · subst e; rw [pk_us]; exact Or.inl rfl
        · rw [pk_un e]; exact q1
theorem fill_at {f g : Nat → Int32} {i k : Nat} {P : Int32 → Prop} (h1 : k < i → P (f k)) (h2 : ¬ k < i → P (g k)) : P (fa_fill f g i k) := by
  unfold fa_fill
  split
  · exact h1 (by assumption)
  · exact h2 (by assumption)
theorem inv_image (h : INV S nc nt B) : INV (f_image S).2 nc nt B := by
  obtain ⟨n, t, tp, kh, kc, kt, j1, j2, j3, j4, j5, j6, j7, j8, j9, j10, j11, j12, j13⟩ := h
  show INV (sI8 (sI9 (sI6 (sImg1 S) 6) 9) 8) nc nt B
  generalize hF : sI8 (sI9 (sI6 (sImg1 S) 6) 9) 8 = F
  have g40 : F 40 0 = S 1 0 := by rw [← hF]; rfl
  have g41 : F 41 0 = S 6 0 := by rw [← hF]; rfl
  have g42 : F 42 0 = S 17 0 := by rw [← hF]; rfl
  have g43 : F 43 = fa_fill (S 2) (S 43) 6 := by rw [← hF]; rfl
  have g44 : F 44 = fa_fill (S 5) (S 44) 9 := by rw [← hF]; rfl
  have g45 : F 45 = fa_fill (S 11) (S 45) 8 := by rw [← hF]; rfl
  have g46 : F 46 = fa_fill (S 12) (S 46) 8 := by rw [← hF]; rfl
  have g47 : F 47 = fa_fill (S 13) (S 47) 8 := by rw [← hF]; rfl
  have g : ∀ q, (q < 39 ∨ 47 < q) → F q = S q := fun q hq => by
    rw [← hF]
    unfold sI8 sI9 sI6 sImg1
    rw [setA_ne (by omega), setA_ne (by omega), setA_ne (by omega), setA_ne (by omega), setA_ne (by omega), up2_ne (by omega), up2_ne (by omega), up2_ne (by omega), up2_ne (by omega)]
  refine ⟨n, t, tp, n, nc, t, j1.go (g _ (by decide)), j2.go (g _ (by decide)), j3.go (g _ (by decide)), j4.go (g _ (by decide)) (g _ (by decide)), j5.go (g _ (by decide)) (g _ (by decide)), J6.go j6 (g _ (by decide)) (g _ (by decide)) (g _ (by decide)), fun i hi => ⟨by rw [g 2 (by decide)]; exact (j7 i hi).1, ?_⟩, j8.go (g _ (by decide)) (g _ (by decide)) (g _ (by decide)), J9.go j9 j3.2.2 (g _ (by decide)) (g _ (by decide)) (g _ (by decide)) (g _ (by decide)) (fun j hj => ⟨g _ (by omega), g _ (by omega)⟩), fun c h1 h2 => ?_, fun i hi => ?_, ⟨by rw [g40]; exact j1.1, j1.2, by rw [g41]; exact j2.1, Nat.le_refl _, by rw [g42]; exact j4.1, j4.2.1, fun v hv => ?_⟩, shI_c j13 (g _ (by decide)) (g _ (by decide)) (g _ (by decide)) (fun s hs => g _ (by omega))⟩
  · rw [g43]
    exact fill_at (P := fun x => ∃ a, a ≤ B ∧ x = nI a) (fun _ => (j7 i hi).1) (fun _ => (j7 i hi).2)
  · obtain ⟨z1, z2, z3, z4, z5, z6⟩ := j10 c h1 h2
    rw [g 11 (by decide), g 12 (by decide), g 13 (by decide), g45, g46, g47]
    exact ⟨z1, z2, z3, fill_at (P := fun x => x = 0) (fun _ => z1) (fun _ => z4), fill_at (P := fun x => x = 0) (fun _ => z2) (fun _ => z5), fill_at (P := fun x => x = 0) (fun _ => z3) (fun _ => z6)⟩
  · obtain ⟨q1, q2, q3, q4⟩ := j11 i hi
    rw [g 11 (by decide), g 12 (by decide), g45, g46]
    exact ⟨q1, fill_at (P := fun x => x = 0 ∨ x = 1) (fun _ => q1) (fun _ => q2), q3, fill_at (P := fun x => ∃ p, p < 7776 ∧ x = nI p) (fun _ => q3) (fun _ => q4)⟩
  · rw [g44]
    exact fill_at (P := fun x => ∃ a, a ≤ 50 ∧ x = nI a) (fun _ => j6.2.1 v hv) (fun _ => j12.2.2.2.2.2.2 v hv)
theorem inv_back {S' : MS} (h : INV S nc nt B) (hf : fr [60] (f_back S).2 S') (h60 : S' 60 0 = (f_back S).2 17 0) : INV S' nc nt B := by
  have h0 := h
  obtain ⟨n, t, tp, kh, kc, kt, j1, j2, j3, j4, j5, j6, j7, j8, j9, j10, j11, j12, j13⟩ := h
  obtain ⟨b1, b2, b3, b4, b5, b6, b7⟩ := j12
  have eh : kHN S = kh := by unfold kHN; rw [b1, nI_clamp (by omega)]
  have ec : kCN S = kc := by unfold kCN; rw [b3, nI_clamp (by have := j2.2; omega)]
  by_cases e39 : S 39 0 = 0
  · have eF : (f_back S).2 = S := by rw [f_back, if_pos e39]
    rw [eF] at hf h60
    have g : ∀ q, q ≠ 60 → S' q = S q := fun q hq => hf q (by simp only [List.mem_cons, List.not_mem_nil, or_false]; exact hq)
    exact ⟨n, t, tp, kh, kc, kt, j1.go (g _ (by decide)), j2.go (g _ (by decide)), j3.go (g _ (by decide)), ⟨by rw [g 17 (by decide)]; exact j4.1, j4.2.1, by rw [h60]; exact j4.1⟩, j5.go (g _ (by decide)) (g _ (by decide)), J6.go j6 (g _ (by decide)) (g _ (by decide)) (g _ (by decide)), j7.go (Nat.le_refl _) (g _ (by decide)) (g _ (by decide)), j8.go (g _ (by decide)) (g _ (by decide)) (g _ (by decide)), J9.go j9 j3.2.2 (g _ (by decide)) (g _ (by decide)) (g _ (by decide)) (g _ (by decide)) (fun j hj => ⟨g _ (by omega), g _ (by omega)⟩), J10.go j10 (g _ (by decide)) (g _ (by decide)) (g _ (by decide)) (g _ (by decide)) (g _ (by decide)) (g _ (by decide)), j11.go (g _ (by decide)) (g _ (by decide)) (g _ (by decide)) (g _ (by decide)), J12.go ⟨b1, b2, b3, b4, b5, b6, b7⟩ (g _ (by decide)) (g _ (by decide)) (g _ (by decide)) (g _ (by decide)), shI_c j13 (g _ (by decide)) (g _ (by decide)) (g _ (by decide)) (fun s hs => g _ (by omega))⟩
  · have eF : (f_back S).2 = bState S kh kc := by rw [f_back, if_neg e39, eh, ec]
    rw [eF] at hf h60
    have f2 : bState S kh kc 2 = fa_fill (S 43) (S 2) kh := rfl
    have f5 : bState S kh kc 5 = fa_fill (S 44) (S 5) 9 := rfl
    have f11 : bState S kh kc 11 = fa_fill (S 45) (S 11) kc := rfl
    have f12 : bState S kh kc 12 = fa_fill (S 46) (S 12) kc := rfl
    have f13 : bState S kh kc 13 = fa_fill (S 47) (S 13) kc := rfl
    have f17 : bState S kh kc 17 0 = S 42 0 := rfl
    have fo : ∀ q, (q ≠ 2 ∧ q ≠ 5 ∧ q ≠ 11 ∧ q ≠ 12 ∧ q ≠ 13 ∧ q ≠ 17) → bState S kh kc q = S q := fun q ⟨q1, q2, q3, q4, q5, q6⟩ => by
      unfold bState sB8 sB9 sB6
      rw [setA_ne q5, setA_ne q4, setA_ne q3, setA_ne q2, setA_ne q1, up2_ne q6]
    generalize bState S kh kc = F at hf h60 f2 f5 f11 f12 f13 f17 fo
    have g0 : ∀ q, q ≠ 60 → S' q = F q := fun q hq => hf q (by simp only [List.mem_cons, List.not_mem_nil, or_false]; exact hq)
    have g : ∀ q, (q ≠ 60 ∧ q ≠ 2 ∧ q ≠ 5 ∧ q ≠ 11 ∧ q ≠ 12 ∧ q ≠ 13 ∧ q ≠ 17) → S' q = S q := fun q ⟨q0, q1⟩ => (g0 q q0).trans (fo q q1)
    refine ⟨n, kt, tp, kh, kc, kt, j1.go (g _ (by decide)), j2.go (g _ (by decide)), j3.go (g _ (by decide)), ⟨by rw [g0 17 (by decide), f17]; exact b5, b6, by rw [h60, f17]; exact b5⟩, j5.go (g _ (by decide)) (g _ (by decide)), ⟨by rw [g 3 (by decide)]; exact j6.1, fun v hv => ?_, by rw [g 4 (by decide)]; exact j6.2.2⟩, fun i hi => ⟨?_, by rw [g 43 (by decide)]; exact (j7 i hi).2⟩, j8.go (g _ (by decide)) (g _ (by decide)) (g _ (by decide)), J9.go j9 j3.2.2 (g _ (by decide)) (g _ (by decide)) (g _ (by decide)) (g _ (by decide)) (fun j hj => ⟨g _ (by omega), g _ (by omega)⟩), fun c h1 h2 => ?_, fun i hi => ?_, J12.go ⟨b1, b2, b3, b4, b5, b6, b7⟩ (g _ (by decide)) (g _ (by decide)) (g _ (by decide)) (g _ (by decide)), shI_c j13 (g _ (by decide)) (g _ (by decide)) (g _ (by decide)) (fun s hs => g _ (by omega))⟩
    · rw [g0 5 (by decide), f5]
      exact fill_at (P := fun x => ∃ a, a ≤ 50 ∧ x = nI a) (fun _ => b7 v hv) (fun _ => j6.2.1 v hv)
    · rw [g0 2 (by decide), f2]
      exact fill_at (P := fun x => ∃ a, a ≤ B ∧ x = nI a) (fun _ => (j7 i hi).2) (fun _ => (j7 i hi).1)
    · obtain ⟨z1, z2, z3, z4, z5, z6⟩ := j10 c h1 h2
      rw [g0 11 (by decide), g0 12 (by decide), g0 13 (by decide), g 45 (by decide), g 46 (by decide), g 47 (by decide), f11, f12, f13]
      exact ⟨fill_at (P := fun x => x = 0) (fun _ => z4) (fun _ => z1), fill_at (P := fun x => x = 0) (fun _ => z5) (fun _ => z2), fill_at (P := fun x => x = 0) (fun _ => z6) (fun _ => z3), z4, z5, z6⟩
    · obtain ⟨q1, q2, q3, q4⟩ := j11 i hi
      rw [g0 11 (by decide), g0 12 (by decide), g 45 (by decide), g 46 (by decide), f11, f12]
      exact ⟨fill_at (P := fun x => x = 0 ∨ x = 1) (fun _ => q2) (fun _ => q1), q2, fill_at (P := fun x => ∃ p, p < 7776 ∧ x = nI p) (fun _ => q4) (fun _ => q3), q4⟩
theorem inv_hkG {a : Nat} {z : Int} (hB : 99 ≤ B) : ∀ (m i : Nat) (c : Int32) (S : MS), INV S nc nt B → INV (hkG a z m i c S).2 nc nt B
  | 0, _, _, _, h => h
  | m + 1, i, c, S, h => by
    rw [hkG]
    split
    · exact h
    · exact inv_hkG hB m (i + 1) _ _ (inv_hank h hB)
theorem inv_hanks {s srt z q : Int32} (h : INV S nc nt B) (hB : 99 ≤ B) : INV (f_hanks S s srt z q).2 nc nt B := by
  unfold f_hanks
  split
  · exact h
  · split
    · exact h
    · split
      · exact h
      · exact inv_hkG hB _ _ _ _ h
/-- sheets -/
theorem inv_sheets (h : INV S nc nt B) (g : ∀ q, q ≠ 48 → q ≠ 49 → q ≠ 50 → q ≠ 51 → ¬ (110 ≤ q ∧ q ≤ 113) → T q = S q) (hs : SHI T) : INV T nc nt B := by
  obtain ⟨n, t, tp, kh, kc, kt, j1, j2, j3, j4, j5, j6, j7, j8, j9, j10, j11, j12, j13⟩ := h
  have g : ∀ q, (q < 48 ∨ (51 < q ∧ q < 110) ∨ 113 < q) → T q = S q := fun q hq => g q (by omega) (by omega) (by omega) (by omega) (by omega)
  exact ⟨n, t, tp, kh, kc, kt, j1.go (g _ (by decide)), j2.go (g _ (by decide)), j3.go (g _ (by decide)), j4.go (g _ (by decide)) (g _ (by decide)), j5.go (g _ (by decide)) (g _ (by decide)), J6.go j6 (g _ (by decide)) (g _ (by decide)) (g _ (by decide)), j7.go (Nat.le_refl _) (g _ (by decide)) (g _ (by decide)), j8.go (g _ (by decide)) (g _ (by decide)) (g _ (by decide)), J9.go j9 j3.2.2 (g _ (by decide)) (g _ (by decide)) (g _ (by decide)) (g _ (by decide)) (fun j hj => ⟨g _ (by omega), g _ (by omega)⟩), J10.go j10 (g _ (by decide)) (g _ (by decide)) (g _ (by decide)) (g _ (by decide)) (g _ (by decide)) (g _ (by decide)), j11.go (g _ (by decide)) (g _ (by decide)) (g _ (by decide)) (g _ (by decide)), j12.go (g _ (by decide)) (g _ (by decide)) (g _ (by decide)) (g _ (by decide)), hs⟩
end Jg
