/-! THE CLASS: image, back, feed -/
theorem img_eq {S : MS} : setA (setA (up2 (up2 (up2 (up2 S 39 0 1) 41 0 (S 6 0)) 42 0 (S 17 0)) 40 0 (S 1 0)) 43 (fa_fill (S 2) (S 43) 6)) 44 (fa_fill (S 5) (S 44) 9) = sI9 (sI6 (sImg1 S) 6) 9 := by
  show _ = setA (setA (up2 (up2 (up2 (up2 S 39 0 1) 40 0 (S 1 0)) 41 0 (S 6 0)) 42 0 (S 17 0)) 43 (fa_fill (S 2) (S 43) 6)) 44 (fa_fill (S 5) (S 44) 9)
  rw [up2_comm (r := 42) (r' := 40) (by decide), up2_comm (r := 41) (r' := 40) (by decide)]
theorem sI8_s {S : MS} {i : Nat} : up2 (up2 (up2 (sI8 S i) 45 i (S 11 i)) 46 i (S 12 i)) 47 i (S 13 i) = sI8 S (i + 1) := by
  refine Eq.trans (s3_up (by decide) (by decide) (by decide)) ?_
  unfold sI8
  rw [← fa_fill_succ, ← fa_fill_succ, ← fa_fill_succ]
theorem sB8_s {S : MS} {i : Nat} : up2 (up2 (up2 (sB8 S i) 11 i (S 45 i)) 12 i (S 46 i)) 13 i (S 47 i) = sB8 S (i + 1) := by
  refine Eq.trans (s3_up (by decide) (by decide) (by decide)) ?_
  unfold sB8
  rw [← fa_fill_succ, ← fa_fill_succ, ← fa_fill_succ]
theorem fr_setAF {X : List Nat} {S T : MS} {r : Nat} {f g : Nat → Int32} (h : fr X S T) (e : f = g) : fr X (setA S r f) (setA T r g) := by
  subst e
  exact fr_setAC h
theorem fr_B6 {S T : MS} {i : Nat} (h : fr [60] S T) : fr [60] (sB6 S i) (sB6 T i) := fr_setAF h (by rw [h 43 (by decide), h 2 (by decide)])
theorem fr_B9 {S T : MS} {i : Nat} (h : fr [60] S T) : fr [60] (sB9 S i) (sB9 T i) := fr_setAF h (by rw [h 44 (by decide), h 5 (by decide)])
theorem fr_B8 {S T : MS} {i : Nat} (h : fr [60] S T) : fr [60] (sB8 S i) (sB8 T i) := fr_setAF (fr_setAF (fr_setAF h (by rw [h 45 (by decide), h 11 (by decide)])) (by rw [h 46 (by decide), h 12 (by decide)])) (by rw [h 47 (by decide), h 13 (by decide)])
theorem sI8_0 {S : MS} : sI8 S 0 = S := by
  unfold sI8
  rw [fa_fill_0, fa_fill_0, fa_fill_0, s3_0 (by decide) (by decide) (by decide)]
theorem sB8_0 {S : MS} : sB8 S 0 = S := by
  unfold sB8
  rw [fa_fill_0, fa_fill_0, fa_fill_0, s3_0 (by decide) (by decide) (by decide)]
/-- coats that aren't there yet: all 0 -/
def ZC (S : MS) (nc : Nat) : Prop := ∀ c, nc ≤ c → c < 8 → S 11 c = 0 ∧ S 12 c = 0 ∧ S 13 c = 0 ∧ S 45 c = 0 ∧ S 46 c = 0 ∧ S 47 c = 0
theorem fill_z {f g : Nat → Int32} {a b : Nat} (hab : a ≤ b) (h : ∀ c, a ≤ c → c < b → f c = g c) : fa_fill f g a = fa_fill f g b := by
  funext k
  by_cases h1 : k < a
  · rw [fa_fill_in h1, fa_fill_in (by omega)]
  · rw [fa_fill_out (by omega)]
    by_cases h2 : k < b
    · rw [fa_fill_in h2, h k (by omega) h2]
    · rw [fa_fill_out (by omega)]
theorem sI8_z {S : MS} {nc : Nat} (h : ZC S nc) (hn : nc ≤ 8) : sI8 S nc = sI8 S 8 := by
  unfold sI8
  rw [fill_z hn (fun c h1 h2 => by rw [(h c h1 h2).1, (h c h1 h2).2.2.2.1]), fill_z hn (fun c h1 h2 => by rw [(h c h1 h2).2.1, (h c h1 h2).2.2.2.2.1]), fill_z hn (fun c h1 h2 => by rw [(h c h1 h2).2.2.1, (h c h1 h2).2.2.2.2.2])]
set_option maxHeartbeats 4000000 in
set_option maxRecDepth 100000 in
theorem lp_imgC (G : Gt) (m : Nat → Prop) (M0 : Nat → va_E) (Q : Qt) (S : MS) (hC8 : Q.2.1 ≤ 8) (hD : ∀ i, i < 8 → S 11 i = 0 ∨ S 11 i = 1) (Post : Option Value → MS → Prop) (K : PX G (CPic G m M0 Q) 3 Y11_image 64 [some (.ref (Q.1 0 0)), some (.ref (Q.1 8 0)), some (.int (nI 8)), some (.int (nI 8)), none] [] (sI8 S Q.2.1) 0 0 Post) : ∀ (kk i : Nat), i ≤ 8 → 9 ≤ i + kk → ∀ z : Option Value, PX G (CPic G m M0 Q) 3 Y11_image 38 [some (.ref (Q.1 0 0)), some (.ref (Q.1 8 0)), some (.int (nI 8)), some (.int (nI i)), z] [] (sI8 S (min i Q.2.1)) 0 0 Post := by
  intro kk
  induction kk with
  | zero => intro i h1 h2; omega
  | succ kk ih =>
    intro i h1 h2 z
    refine px_iload_n dX11_image_38 rfl rfl ?_
    refine px_iload_n dX11_image_39 rfl rfl ?_
    refine px_icmp_ge (tgt := 64) dX11_image_40 (by decide) (fun H40 => ?_) (fun H40 => ?_)
    · skip
      have e8 : i = 8 := by have := ge_n (a := i) (b := 8) (by omega) (by omega) H40; omega
      subst e8
      rw [show min 8 Q.2.1 = Q.2.1 by omega]
      exact px_lw (ls' := [some (.ref (Q.1 0 0)), some (.ref (Q.1 8 0)), some (.int (nI 8)), some (.int (nI 8)), none]) (by simp [LW]) K
    · skip
      have l8 : i < 8 := lt_n (a := i) (b := 8) (by omega) (by omega) H40
      refine px_aload_n dX11_image_43 rfl rfl ?_
      refine px_iload_n dX11_image_44 rfl rfl ?_
      by_cases hcc : i < Q.2.1
      · skip
        have hst : min (i + 1) Q.2.1 = i + 1 := by omega
        have hs0 : min i Q.2.1 = i := by omega
        rw [hs0]
        refine cx_aald (k := 8) (i := 0) (i) dX11_image_45 rfl Nat.one_pos rfl rfl rfl (by omega) (by decide) (cr_pos hcc) ?_
        refine px_astore_4 dX11_image_46 (by decide) rfl ?_
        refine px_aload dX11_image_48 rfl ?_
        refine px_ifnull dX11_image_50 ?_
        refine px_aload dX11_image_53 rfl ?_
        refine cx_callOV0 (k := 33) (i := i) dX11_image_55 (ko_X11_249 _) rfl (show i < Q.2.1 by omega) (vk_cl _) (c_X2_keepImage G m M0 Q (sI8 S i) i hcc (hD i l8)) (by decide) (Nat.le_of_ble_eq_true rfl) (fun S55 Q55 => ?_)
        have e55 : S55 = sI8 S (i + 1) := Q55.trans sI8_s
        refine px_iinc_3 (v := 1) dX11_image_58 (by decide) (by decide) rfl ?_
        refine px_goto (tgt := 38) dX11_image_61 (by decide) ?_
        rw [nI_1]
        first
        | exact px_lw (ls' := [some (.ref (Q.1 0 0)), some (.ref (Q.1 8 0)), some (.int (nI 8)), some (.int (nI (i + 1))), none]) (by simp [LW]) (px_S (by rw [hst]; exact e55) (ih (i + 1) (by omega) (by omega) none))
        | exact px_lw (ls' := [some (.ref (Q.1 0 0)), some (.ref (Q.1 8 0)), some (.int (nI 8)), some (.int (nI (i + 1))), none]) (by simp [LW]) (px_S (by rw [hst]) (ih (i + 1) (by omega) (by omega) none))
      · skip
        have hst : min (i + 1) Q.2.1 = min i Q.2.1 := by omega
        refine cx_aald (k := 8) (i := 0) (i) dX11_image_45 rfl Nat.one_pos rfl rfl rfl (by omega) (by decide) (cr_neg hcc) ?_
        refine px_astoreN_4 dX11_image_46 (by decide) rfl ?_
        refine px_aloadN dX11_image_48 rfl ?_
        refine px_ifnullN (tgt := 58) dX11_image_50 (by decide) ?_
        refine px_iinc_3 (v := 1) dX11_image_58 (by decide) (by decide) rfl ?_
        refine px_goto (tgt := 38) dX11_image_61 (by decide) ?_
        rw [nI_1]
        first
        | exact px_lw (ls' := [some (.ref (Q.1 0 0)), some (.ref (Q.1 8 0)), some (.int (nI 8)), some (.int (nI (i + 1))), none]) (by simp [LW]) (px_S (by rw [hst]; exact e55) (ih (i + 1) (by omega) (by omega) none))
        | exact px_lw (ls' := [some (.ref (Q.1 0 0)), some (.ref (Q.1 8 0)), some (.int (nI 8)), some (.int (nI (i + 1))), none]) (by simp [LW]) (px_S (by rw [hst]) (ih (i + 1) (by omega) (by omega) none))
      -- end
set_option maxHeartbeats 4000000 in
set_option maxRecDepth 100000 in
theorem c_X11_image (G : Gt) (m : Nat → Prop) (M0 : Nat → va_E) (Q : Qt) (S : MS) (n t : Nat) (hCH : CH S Q n t) (hD : ∀ i, i < 8 → S 11 i = 0 ∨ S 11 i = 1) (hZ : ZC S Q.2.1) : PC G (CPic G m M0 Q) 3 Y11_image [.ref (Q.1 0 0)] S 0 0 (ri (fun x S' => x = (f_image S).1 ∧ S' = (f_image S).2)) := by
  obtain ⟨hPH, hC, hC8, h60, h16, hOB⟩ := hCH
  have hn1 := hPH.1
  have hn6 := hPH.2.1
  have hTX := hPH.2.2.1
  have hWB := hPH.2.2.2.1
  have hco := hPH.2.2.2.2
  have ht := hTX.2.1
  have h6 := hTX.2.2.1
  have hRU : (S 60 0).toNatClampNeg = t := by rw [h60, nI_clamp (by omega)]
  have eN := hN_eq hn1 (by omega)
  have eC := cN_eq hC (by omega)
  refine pc_of (ls := [some (.ref (Q.1 0 0)), none, none, none, none]) (by decide +kernel) rfl (Nat.le_of_ble_eq_true rfl) ?_
  refine px_aload_n dX11_image_0 rfl rfl ?_
  refine px_iconst (v := 1) dX11_image_1 (by decide) ?_
  refine cx_put (k := 0) (i := 0) (f := 10) (r := 39) (j := 0) dX11_image_2 gX11_237 rfl Nat.one_pos (Nat.le_of_ble_eq_true rfl) (by decide) rfl (cpe_0_10 0 _) rfl rfl ?_
  refine px_aload_n dX11_image_5 rfl rfl ?_
  refine px_aload_n dX11_image_6 rfl rfl ?_
  refine cx_get (k := 0) (i := 0) (f := 2) dX11_image_7 gX11_91 rfl Nat.one_pos rfl ?_
  refine cx_put (k := 0) (i := 0) (f := 11) (r := 41) (j := 0) dX11_image_10 gX11_240 rfl Nat.one_pos (Nat.le_of_ble_eq_true rfl) (by decide) rfl (cpe_0_11 0 _) rfl rfl ?_
  refine px_aload_n dX11_image_13 rfl rfl ?_
  refine px_aload_n dX11_image_14 rfl rfl ?_
  refine cx_get (k := 0) (i := 0) (f := 7) dX11_image_15 gX11_153 rfl Nat.one_pos rfl ?_
  refine cx_put (k := 0) (i := 0) (f := 12) (r := 42) (j := 0) dX11_image_18 gX11_243 rfl Nat.one_pos (Nat.le_of_ble_eq_true rfl) (by decide) rfl (cpe_0_12 0 _) rfl rfl ?_
  refine px_aload_n dX11_image_21 rfl rfl ?_
  refine cx_get (k := 0) (i := 0) (f := 0) dX11_image_22 gX11_10 rfl Nat.one_pos rfl ?_
  refine cx_callV0 (k := 1) (i := 0) dX11_image_25 lX11_246 rfl Nat.one_pos rfl (c_X10_keepImage G m M0 Q _) (by decide) (Nat.le_of_ble_eq_true rfl) (fun S25 Q25 => ?_)
  have e25 : S25 = sI9 (sI6 (sImg1 S) 6) 9 := Q25.trans img_eq
  obtain rfl := e25.symm
  refine px_aload_n dX11_image_28 rfl rfl ?_
  refine cx_get (k := 0) (i := 0) (f := 1) dX11_image_29 gX11_18 rfl Nat.one_pos rfl ?_
  refine px_astore_n1 dX11_image_32 (by decide) rfl ?_
  refine px_aload_n dX11_image_33 rfl rfl ?_
  refine cx_alen (k := 8) (i := 0) (t := 3) (n := 0) (v := (nI 8)) dX11_image_34 rfl Nat.one_pos rfl rfl ?_
  refine px_istore_n2 dX11_image_35 (by decide) rfl ?_
  refine px_iconst (v := 0) dX11_image_36 (by decide) ?_
  refine px_istore_n3 dX11_image_37 (by decide) rfl ?_
  refine px_S sI8_0.symm (px_lw (ls' := [some (.ref (Q.1 0 0)), some (.ref (Q.1 8 0)), some (.int (nI 8)), some (.int (nI 0)), none]) (by simp [LW] <;> rfl) (px_S (by rw [Nat.zero_min]) (lp_imgC G m M0 Q (sI9 (sI6 (sImg1 S) 6) 9) hC8 hD _ ?_ 9 0 (by omega) (by omega) none)))
  refine px_aload_n dX11_image_64 rfl rfl ?_
  refine cx_callI0 (k := 0) (i := 0) dX11_image_65 lX11_250 rfl Nat.one_pos rfl (c_X11_doneCount G m M0 Q _ hC8) (by decide) (Nat.le_of_ble_eq_true rfl) (fun x65 S65 Q65 => ?_)
  obtain ⟨rfl, e65⟩ := Q65
  obtain rfl := e65.symm
  refine px_iretI dX11_image_68 rfl ?_
  exact ⟨by rw [f_image, eC]; exact mDoneS_congr (S := S) (S' := sI8 (sI9 (sI6 (sImg1 S) 6) 9) Q.2.1) (fun _ => rfl) _, by rw [f_image]; exact sI8_z hZ hC8⟩
set_option maxHeartbeats 4000000 in
set_option maxRecDepth 100000 in
theorem lp_backC (G : Gt) (m : Nat → Prop) (M0 : Nat → va_E) (Q : Qt) (S : MS) (kc : Nat) (hC : S 6 0 = nI Q.2.1) (hC8 : Q.2.1 ≤ 8) (hk : S 41 0 = nI kc) (hkc : kc ≤ Q.2.1) (hD : ∀ i, i < 8 → S 45 i = 0 ∨ S 45 i = 1) (Post : Option Value → MS → Prop) (K : PX G (CPic G m M0 Q) 3 Y11_back 55 [some (.ref (Q.1 0 0)), some (.int (nI kc)), none] [] (sB8 S kc) 0 0 Post) : ∀ (kk i : Nat), i ≤ kc → kc + 1 ≤ i + kk → ∀ z : Option Value, PX G (CPic G m M0 Q) 3 Y11_back 27 [some (.ref (Q.1 0 0)), some (.int (nI i)), z] [] (sB8 S i) 0 0 Post := by
  intro kk
  induction kk with
  | zero => intro i h1 h2; omega
  | succ kk ih =>
    intro i h1 h2 z
    refine px_iload_n dX11_back_27 rfl rfl ?_
    refine px_aload_n dX11_back_28 rfl rfl ?_
    refine cx_get (k := 0) (i := 0) (f := 11) dX11_back_29 gX11_240 rfl Nat.one_pos rfl ?_
    refine px_icmp_ge (tgt := 55) dX11_back_32 (by decide) (fun H32 => ?_) (fun H32 => ?_)
    · skip
      rw [show sB8 S i 41 0 = nI kc from hk] at H32
      have e8 : i = kc := by have := ge_n (a := i) (b := kc) (by omega) (by omega) H32; omega
      subst e8
      exact px_lw (ls' := [some (.ref (Q.1 0 0)), some (.int (nI i)), none]) (by simp [LW]) K
    · skip
      rw [show sB8 S i 41 0 = nI kc from hk] at H32
      have l8 : i < kc := lt_n (a := i) (b := kc) (by omega) (by omega) H32
      refine px_aload_n dX11_back_35 rfl rfl ?_
      refine px_iload_n dX11_back_36 rfl rfl ?_
      refine cx_callR1 (k := 0) (i := 0) dX11_back_37 lX11_98 rfl Nat.one_pos rfl (c_X11_coatAt G m M0 Q (sB8 S i) (nI i) hC hC8) (by decide) (Nat.le_of_ble_eq_true rfl) (fun x37 S37 Q37 => ?_)
      obtain ⟨hx37, e37⟩ := Q37
      obtain rfl := e37.symm
      obtain ⟨k, hkq, ek, rfl⟩ : ∃ k, k < Q.2.1 ∧ nI i = nI k ∧ x37 = .ref (Q.1 33 k) := by
        rcases hx37 with ⟨hct, -⟩ | ⟨-, hh⟩
        · exact absurd hct (by unfold mCt; rw [show sB8 S i 6 0 = nI Q.2.1 from hC, nIs (by omega)]; exact mIn_1.mpr ⟨nI_nneg (by omega), fun q => by have := lt_n (by omega) (by omega) q; omega⟩)
        · exact hh
      obtain rfl : i = k := eq_n (by omega) (by omega) ek
      refine px_astore_n2 dX11_back_40 (by decide) rfl ?_
      refine px_aload_n dX11_back_41 rfl rfl ?_
      refine px_ifnull dX11_back_42 ?_
      refine px_aload_n dX11_back_45 rfl rfl ?_
      refine cx_callOV0 (k := 33) (i := i) dX11_back_46 (ko_X11_256 _) rfl (show i < Q.2.1 by omega) (vk_cl _) (c_X2_layBack G m M0 Q (sB8 S i) i hkq (hD i (by omega))) (by decide) (Nat.le_of_ble_eq_true rfl) (fun S46 Q46 => ?_)
      have e46 : S46 = sB8 S (i + 1) := Q46.trans sB8_s
      refine px_iinc_1 (v := 1) dX11_back_49 (by decide) (by decide) rfl ?_
      refine px_goto (tgt := 27) dX11_back_52 (by decide) ?_
      rw [nI_1]
      exact px_lw (ls' := [some (.ref (Q.1 0 0)), some (.int (nI (i + 1))), none]) (by simp [LW]) (px_S e46 (ih (i + 1) (by omega) (by omega) none))
      -- end
set_option maxHeartbeats 4000000 in
set_option maxRecDepth 100000 in
theorem c_X11_back (G : Gt) (m : Nat → Prop) (M0 : Nat → va_E) (Q : Qt) (S : MS) (n t : Nat) (kh kc kt : Nat) (hCH : CH S Q n t) (hD : ∀ i, i < 8 → S 45 i = 0 ∨ S 45 i = 1) (hK : S 40 0 = nI kh) (hk6 : kh ≤ 6) (hk : S 41 0 = nI kc) (hkc : kc ≤ Q.2.1) (ht42 : S 42 0 = nI kt) (hkt : kt < Q.2.2) : PC G (CPic G m M0 Q) 3 Y11_back [.ref (Q.1 0 0)] S 0 0 (ri (fun x S' => x = (f_back S).1 ∧ fr [60] (f_back S).2 S' ∧ S' 60 0 = (f_back S).2 17 0)) := by
  obtain ⟨hPH, hC, hC8, h60, h16, hOB⟩ := hCH
  have hn1 := hPH.1
  have hn6 := hPH.2.1
  have hTX := hPH.2.2.1
  have hWB := hPH.2.2.2.1
  have hco := hPH.2.2.2.2
  have ht := hTX.2.1
  have h6 := hTX.2.2.1
  have hRU : (S 60 0).toNatClampNeg = t := by rw [h60, nI_clamp (by omega)]
  have eN := hN_eq hn1 (by omega)
  have eC := cN_eq hC (by omega)
  refine pc_of (ls := [some (.ref (Q.1 0 0)), none, none]) (by decide +kernel) rfl (Nat.le_of_ble_eq_true rfl) ?_
  refine px_aload_n dX11_back_0 rfl rfl ?_
  refine cx_get (k := 0) (i := 0) (f := 10) dX11_back_1 gX11_237 rfl Nat.one_pos rfl ?_
  refine px_if_ne (tgt := 10) dX11_back_4 (by decide) (fun H4 => ?_) (fun H4 => ?_)
  · skip
    refine px_aload_n dX11_back_10 rfl rfl ?_
    refine px_aload_n dX11_back_11 rfl rfl ?_
    refine cx_get (k := 0) (i := 0) (f := 12) dX11_back_12 gX11_243 rfl Nat.one_pos rfl ?_
    rw [ht42]
    refine cx_callV1 (k := 0) (i := 0) dX11_back_15 lX11_156 rfl Nat.one_pos rfl (c_X11_useRule G m M0 Q S kt h16 hkt h6) (by decide) (Nat.le_of_ble_eq_true rfl) (fun S15 Q15 => ?_)
    obtain rfl := Q15.symm
    refine px_aload_n dX11_back_18 rfl rfl ?_
    refine cx_get (k := 0) (i := 0) (f := 0) dX11_back_19 gX11_10 rfl Nat.one_pos rfl ?_
    refine cx_callV0 (k := 1) (i := 0) dX11_back_22 lX11_253 rfl Nat.one_pos rfl (c_X10_layBack G m M0 Q _ kh hK hk6) (by decide) (Nat.le_of_ble_eq_true rfl) (fun S22 Q22 => ?_)
    obtain ⟨B, hB⟩ : ∃ B, B = up2 S 60 0 (nI kt) := ⟨_, rfl⟩
    have e22 : S22 = sB9 (sB6 (up2 B 17 0 (B 42 0)) kh) 9 := by
      rw [Q22, hB, show up2 S 60 0 (nI kt) 42 0 = nI kt from ht42]
      rfl
    obtain rfl := e22.symm
    refine px_iconst (v := 0) dX11_back_25 (by decide) ?_
    refine px_istore_n1 dX11_back_26 (by decide) rfl ?_
    refine px_S sB8_0.symm (px_lw (ls' := [some (.ref (Q.1 0 0)), some (.int (nI 0)), none]) (by simp [LW] <;> rfl) (lp_backC G m M0 Q (sB9 (sB6 (up2 B 17 0 (B 42 0)) kh) 9) kc (by rw [hB]; exact hC) hC8 (by rw [hB]; exact hk) hkc (by rw [hB]; exact hD) _ ?_ (kc + 1) 0 (by omega) (by omega) none))
    refine px_aload_n dX11_back_55 rfl rfl ?_
    refine cx_callI0 (k := 0) (i := 0) dX11_back_56 lX11_250 rfl Nat.one_pos rfl (c_X11_doneCount G m M0 Q _ hC8) (by decide) (Nat.le_of_ble_eq_true rfl) (fun x56 S56 Q56 => ?_)
    obtain ⟨rfl, e56⟩ := Q56
    obtain rfl := e56.symm
    refine px_iretI dX11_back_59 rfl ?_
    first
    | exact ⟨by rw [f_back, if_pos H4], by rw [f_back, if_pos H4]; exact fr.rf, by rw [f_back, if_pos H4, h60]; exact hTX.1.symm⟩
    | (have ekh : kHN S = kh := by unfold kHN; rw [hK, nI_clamp (by omega)]
       have ekc : kCN S = kc := by unfold kCN; rw [hk, nI_clamp (by omega)]
       have eb : ∀ k, k ≠ 60 → sB8 (sB9 (sB6 (up2 B 17 0 (B 42 0)) kh) 9) kc k = bState S kh kc k := by
         intro k hk9
         have hBk : fr [60] S B := by rw [hB]; exact fr.rf.up List.mem_cons_self
         have h2 : fr [60] (bState S kh kc) (sB8 (sB9 (sB6 (up2 B 17 0 (B 42 0)) kh) 9) kc) := by
           unfold bState
           exact fr_B8 (fr_B9 (fr_B6 (by rw [show B 42 = S 42 from hBk 42 (by decide)]; exact fr_up2C hBk)))
         exact h2 k (by simp [hk9])
       refine ⟨?_, ?_, ?_⟩
       · rw [f_back, if_neg H4, ekh, ekc, eC]
         exact mDoneS_congr (fun i => by rw [eb 11 (by decide)]) _
       · rw [f_back, if_neg H4, ekh, ekc]
         exact fun k hk9 => eb k (by simpa using hk9)
       · rw [f_back, if_neg H4, ekh, ekc]
         show B 60 0 = S 42 0
         rw [hB, ht42]
         simp [up2, upd])
  · skip
    refine px_bipush (v := (-3)) dX11_back_7 (by decide) ?_
    refine px_iretI dX11_back_9 rfl ?_
    first
    | exact ⟨by rw [f_back, if_pos H4], by rw [f_back, if_pos H4]; exact fr.rf, by rw [f_back, if_pos H4, h60]; exact hTX.1.symm⟩
    | (have ekh : kHN S = kh := by unfold kHN; rw [hK, nI_clamp (by omega)]
       have ekc : kCN S = kc := by unfold kCN; rw [hk, nI_clamp (by omega)]
       have eb : ∀ k, k ≠ 60 → sB8 (sB9 (sB6 (up2 B 17 0 (B 42 0)) kh) 9) kc k = bState S kh kc k := by
         intro k hk9
         have hBk : fr [60] S B := by rw [hB]; exact fr.rf.up List.mem_cons_self
         have h2 : fr [60] (bState S kh kc) (sB8 (sB9 (sB6 (up2 B 17 0 (B 42 0)) kh) 9) kc) := by
           unfold bState
           exact fr_B8 (fr_B9 (fr_B6 (by rw [show B 42 = S 42 from hBk 42 (by decide)]; exact fr_up2C hBk)))
         exact h2 k (by simp [hk9])
       refine ⟨?_, ?_, ?_⟩
       · rw [f_back, if_neg H4, ekh, ekc, eC]
         exact mDoneS_congr (fun i => by rw [eb 11 (by decide)]) _
       · rw [f_back, if_neg H4, ekh, ekc]
         exact fun k hk9 => eb k (by simpa using hk9)
       · rw [f_back, if_neg H4, ekh, ekc]
         show B 60 0 = S 42 0
         rw [hB, ht42]
         simp [up2, upd])
theorem byt_eq {b : Int64} {k : Nat} (hk : k < 8) : ((b.toUInt64 >>> ((8 * nI k).toInt64.toUInt64 &&& Int64.toUInt64 63)).toInt64).toInt32.toInt8.toInt32 = bOf b k := by
  unfold bOf
  congr 1
  apply Int8.toBitVec_inj.mp
  apply BitVec.eq_of_getLsbD_eq
  intro i hi
  rcases (by omega : k = 0 ∨ k = 1 ∨ k = 2 ∨ k = 3 ∨ k = 4 ∨ k = 5 ∨ k = 6 ∨ k = 7) with rfl | rfl | rfl | rfl | rfl | rfl | rfl | rfl
  · rw [show ((8 * nI 0).toInt64.toUInt64 &&& Int64.toUInt64 63) = 0 by decide, show ((8 * nI 0).toInt64 &&& 63) = 0 by decide]
    simp only [Int32.toBitVec_toInt8, Int64.toBitVec_toInt32, UInt64.toBitVec_toInt64, UInt64.toBitVec_shiftRight, Int64.toBitVec_shiftRight, Int64.toBitVec_toUInt64, BitVec.getLsbD_setWidth]
    rw [show (UInt64.toBitVec 0 % 64) = BitVec.ofNat 64 0 by decide, show ((Int64.toBitVec 0).smod 64) = BitVec.ofNat 64 0 by decide]
    rw [BitVec.getLsbD_signExtend, BitVec.getLsbD_signExtend, BitVec.getLsbD_signExtend, BitVec.getLsbD_signExtend, BitVec.ushiftRight_eq', BitVec.sshiftRight_eq', BitVec.getLsbD_ushiftRight, BitVec.getLsbD_sshiftRight]
    have h1 : i < 32 := by omega
    have h2 : i < 64 := by omega
    have h3 : 0 + i < 64 := by omega
    have h4 : ¬ 64 ≤ i := by omega
    have h5 : (BitVec.ofNat 64 0).toNat = 0 := rfl
    simp [hi, h1, h2, h3, h4, h5]
  · rw [show ((8 * nI 1).toInt64.toUInt64 &&& Int64.toUInt64 63) = 8 by decide, show ((8 * nI 1).toInt64 &&& 63) = 8 by decide]
    simp only [Int32.toBitVec_toInt8, Int64.toBitVec_toInt32, UInt64.toBitVec_toInt64, UInt64.toBitVec_shiftRight, Int64.toBitVec_shiftRight, Int64.toBitVec_toUInt64, BitVec.getLsbD_setWidth]
    rw [show (UInt64.toBitVec 8 % 64) = BitVec.ofNat 64 8 by decide, show ((Int64.toBitVec 8).smod 64) = BitVec.ofNat 64 8 by decide]
    rw [BitVec.getLsbD_signExtend, BitVec.getLsbD_signExtend, BitVec.getLsbD_signExtend, BitVec.getLsbD_signExtend, BitVec.ushiftRight_eq', BitVec.sshiftRight_eq', BitVec.getLsbD_ushiftRight, BitVec.getLsbD_sshiftRight]
    have h1 : i < 32 := by omega
    have h2 : i < 64 := by omega
    have h3 : 8 + i < 64 := by omega
    have h4 : ¬ 64 ≤ i := by omega
    have h5 : (BitVec.ofNat 64 8).toNat = 8 := rfl
    simp [hi, h1, h2, h3, h4, h5]
  · rw [show ((8 * nI 2).toInt64.toUInt64 &&& Int64.toUInt64 63) = 16 by decide, show ((8 * nI 2).toInt64 &&& 63) = 16 by decide]
    simp only [Int32.toBitVec_toInt8, Int64.toBitVec_toInt32, UInt64.toBitVec_toInt64, UInt64.toBitVec_shiftRight, Int64.toBitVec_shiftRight, Int64.toBitVec_toUInt64, BitVec.getLsbD_setWidth]
    rw [show (UInt64.toBitVec 16 % 64) = BitVec.ofNat 64 16 by decide, show ((Int64.toBitVec 16).smod 64) = BitVec.ofNat 64 16 by decide]
    rw [BitVec.getLsbD_signExtend, BitVec.getLsbD_signExtend, BitVec.getLsbD_signExtend, BitVec.getLsbD_signExtend, BitVec.ushiftRight_eq', BitVec.sshiftRight_eq', BitVec.getLsbD_ushiftRight, BitVec.getLsbD_sshiftRight]
    have h1 : i < 32 := by omega
    have h2 : i < 64 := by omega
    have h3 : 16 + i < 64 := by omega
    have h4 : ¬ 64 ≤ i := by omega
    have h5 : (BitVec.ofNat 64 16).toNat = 16 := rfl
    simp [hi, h1, h2, h3, h4, h5]
  · rw [show ((8 * nI 3).toInt64.toUInt64 &&& Int64.toUInt64 63) = 24 by decide, show ((8 * nI 3).toInt64 &&& 63) = 24 by decide]
    simp only [Int32.toBitVec_toInt8, Int64.toBitVec_toInt32, UInt64.toBitVec_toInt64, UInt64.toBitVec_shiftRight, Int64.toBitVec_shiftRight, Int64.toBitVec_toUInt64, BitVec.getLsbD_setWidth]
    rw [show (UInt64.toBitVec 24 % 64) = BitVec.ofNat 64 24 by decide, show ((Int64.toBitVec 24).smod 64) = BitVec.ofNat 64 24 by decide]
    rw [BitVec.getLsbD_signExtend, BitVec.getLsbD_signExtend, BitVec.getLsbD_signExtend, BitVec.getLsbD_signExtend, BitVec.ushiftRight_eq', BitVec.sshiftRight_eq', BitVec.getLsbD_ushiftRight, BitVec.getLsbD_sshiftRight]
    have h1 : i < 32 := by omega
    have h2 : i < 64 := by omega
    have h3 : 24 + i < 64 := by omega
    have h4 : ¬ 64 ≤ i := by omega
    have h5 : (BitVec.ofNat 64 24).toNat = 24 := rfl
    simp [hi, h1, h2, h3, h4, h5]
  · rw [show ((8 * nI 4).toInt64.toUInt64 &&& Int64.toUInt64 63) = 32 by decide, show ((8 * nI 4).toInt64 &&& 63) = 32 by decide]
    simp only [Int32.toBitVec_toInt8, Int64.toBitVec_toInt32, UInt64.toBitVec_toInt64, UInt64.toBitVec_shiftRight, Int64.toBitVec_shiftRight, Int64.toBitVec_toUInt64, BitVec.getLsbD_setWidth]
    rw [show (UInt64.toBitVec 32 % 64) = BitVec.ofNat 64 32 by decide, show ((Int64.toBitVec 32).smod 64) = BitVec.ofNat 64 32 by decide]
    rw [BitVec.getLsbD_signExtend, BitVec.getLsbD_signExtend, BitVec.getLsbD_signExtend, BitVec.getLsbD_signExtend, BitVec.ushiftRight_eq', BitVec.sshiftRight_eq', BitVec.getLsbD_ushiftRight, BitVec.getLsbD_sshiftRight]
    have h1 : i < 32 := by omega
    have h2 : i < 64 := by omega
    have h3 : 32 + i < 64 := by omega
    have h4 : ¬ 64 ≤ i := by omega
    have h5 : (BitVec.ofNat 64 32).toNat = 32 := rfl
    simp [hi, h1, h2, h3, h4, h5]
  · rw [show ((8 * nI 5).toInt64.toUInt64 &&& Int64.toUInt64 63) = 40 by decide, show ((8 * nI 5).toInt64 &&& 63) = 40 by decide]
    simp only [Int32.toBitVec_toInt8, Int64.toBitVec_toInt32, UInt64.toBitVec_toInt64, UInt64.toBitVec_shiftRight, Int64.toBitVec_shiftRight, Int64.toBitVec_toUInt64, BitVec.getLsbD_setWidth]
    rw [show (UInt64.toBitVec 40 % 64) = BitVec.ofNat 64 40 by decide, show ((Int64.toBitVec 40).smod 64) = BitVec.ofNat 64 40 by decide]
    rw [BitVec.getLsbD_signExtend, BitVec.getLsbD_signExtend, BitVec.getLsbD_signExtend, BitVec.getLsbD_signExtend, BitVec.ushiftRight_eq', BitVec.sshiftRight_eq', BitVec.getLsbD_ushiftRight, BitVec.getLsbD_sshiftRight]
    have h1 : i < 32 := by omega
    have h2 : i < 64 := by omega
    have h3 : 40 + i < 64 := by omega
    have h4 : ¬ 64 ≤ i := by omega
    have h5 : (BitVec.ofNat 64 40).toNat = 40 := rfl
    simp [hi, h1, h2, h3, h4, h5]
  · rw [show ((8 * nI 6).toInt64.toUInt64 &&& Int64.toUInt64 63) = 48 by decide, show ((8 * nI 6).toInt64 &&& 63) = 48 by decide]
    simp only [Int32.toBitVec_toInt8, Int64.toBitVec_toInt32, UInt64.toBitVec_toInt64, UInt64.toBitVec_shiftRight, Int64.toBitVec_shiftRight, Int64.toBitVec_toUInt64, BitVec.getLsbD_setWidth]
    rw [show (UInt64.toBitVec 48 % 64) = BitVec.ofNat 64 48 by decide, show ((Int64.toBitVec 48).smod 64) = BitVec.ofNat 64 48 by decide]
    rw [BitVec.getLsbD_signExtend, BitVec.getLsbD_signExtend, BitVec.getLsbD_signExtend, BitVec.getLsbD_signExtend, BitVec.ushiftRight_eq', BitVec.sshiftRight_eq', BitVec.getLsbD_ushiftRight, BitVec.getLsbD_sshiftRight]
    have h1 : i < 32 := by omega
    have h2 : i < 64 := by omega
    have h3 : 48 + i < 64 := by omega
    have h4 : ¬ 64 ≤ i := by omega
    have h5 : (BitVec.ofNat 64 48).toNat = 48 := rfl
    simp [hi, h1, h2, h3, h4, h5]
  · rw [show ((8 * nI 7).toInt64.toUInt64 &&& Int64.toUInt64 63) = 56 by decide, show ((8 * nI 7).toInt64 &&& 63) = 56 by decide]
    simp only [Int32.toBitVec_toInt8, Int64.toBitVec_toInt32, UInt64.toBitVec_toInt64, UInt64.toBitVec_shiftRight, Int64.toBitVec_shiftRight, Int64.toBitVec_toUInt64, BitVec.getLsbD_setWidth]
    rw [show (UInt64.toBitVec 56 % 64) = BitVec.ofNat 64 56 by decide, show ((Int64.toBitVec 56).smod 64) = BitVec.ofNat 64 56 by decide]
    rw [BitVec.getLsbD_signExtend, BitVec.getLsbD_signExtend, BitVec.getLsbD_signExtend, BitVec.getLsbD_signExtend, BitVec.ushiftRight_eq', BitVec.sshiftRight_eq', BitVec.getLsbD_ushiftRight, BitVec.getLsbD_sshiftRight]
    have h1 : i < 32 := by omega
    have h2 : i < 64 := by omega
    have h3 : 56 + i < 64 := by omega
    have h4 : ¬ 64 ≤ i := by omega
    have h5 : (BitVec.ofNat 64 56).toNat = 56 := rfl
    simp [hi, h1, h2, h3, h4, h5]
set_option maxHeartbeats 4000000 in
set_option maxRecDepth 100000 in
theorem c_X7_addByte (G : Gt) (m : Nat → Prop) (M0 : Nat → va_E) (Q : Qt) (S : MS) (v : Int32) (tp : Nat) (ht : S 15 0 = nI tp) (hl : tp < 160) : PC G (CPic G m M0 Q) 1 Y7_addByte [.ref (Q.1 9 0), .int v] S 0 0 (rv (fun S' => S' = up2 (up2 S 14 tp (vp_nar .byte v)) 15 0 (nI tp + 1))) := by
  refine pc_of (ls := [some (.ref (Q.1 9 0)), some (.int v)]) (by decide +kernel) rfl (Nat.le_of_ble_eq_true rfl) ?_
  refine px_aload_n dX7_addByte_0 rfl rfl ?_
  refine cx_get (k := 9) (i := 0) (f := 1) dX7_addByte_1 gX7_19 rfl Nat.one_pos rfl ?_
  refine px_sipush (v := 160) dX7_addByte_4 (by decide) ?_
  refine px_icmp_ge (tgt := 30) dX7_addByte_7 (by decide) (fun H7 => ?_) (fun H7 => ?_)
  · skip
    rw [ht] at H7
    exact absurd (ge_n (b := 160) (by omega) (by omega) H7) (by omega)
  · skip
    rw [ht] at H7
    refine px_aload_n dX7_addByte_10 rfl rfl ?_
    refine cx_get (k := 9) (i := 0) (f := 2) dX7_addByte_11 gX7_11 rfl Nat.one_pos rfl ?_
    refine px_aload_n dX7_addByte_14 rfl rfl ?_
    refine cx_get (k := 9) (i := 0) (f := 1) dX7_addByte_15 gX7_19 rfl Nat.one_pos rfl ?_
    refine px_iload_n dX7_addByte_18 rfl rfl ?_
    refine cx_bast (k := 10) (i := 0) (r := 14) (tp) dX7_addByte_19 (fun _ _ => rfl) Nat.one_pos (by decide) rfl ht (by omega) (by decide) ?_
    refine px_aload_n dX7_addByte_20 rfl rfl ?_
    refine px_dup dX7_addByte_21 rfl ?_
    refine cx_get (k := 9) (i := 0) (f := 1) dX7_addByte_22 gX7_19 rfl Nat.one_pos rfl ?_
    refine px_iconst (v := 1) dX7_addByte_25 (by decide) ?_
    refine px_iadd dX7_addByte_26 ?_
    refine cx_put (k := 9) (i := 0) (f := 1) (r := 15) (j := 0) dX7_addByte_27 gX7_19 rfl Nat.one_pos (Nat.le_of_ble_eq_true rfl) (by decide) rfl (cpe_9_1 0 _) rfl rfl ?_
    refine px_return dX7_addByte_30 rfl ?_
    exact by rw [show up2 S 14 tp (vp_nar .byte v) 15 0 = nI tp from ht]
set_option maxHeartbeats 4000000 in
set_option maxRecDepth 100000 in
theorem lp_fdC (G : Gt) (m : Nat → Prop) (M0 : Nat → va_E) (Q : Qt) (S : MS) (q tp : Nat) (b : Int64) (ht : S 15 0 = nI tp) (hq : tp + q ≤ 160) (hq8 : q ≤ 8) (Post : Option Value → MS → Prop) (K : PX G (CPic G m M0 Q) 2 Y11_feed 62 [some (.ref (Q.1 0 0)), some (.int (nI q)), some (.long b), none, some (.int (nI q))] [] (sFd S b tp q) 0 0 Post) : ∀ (kk i : Nat), i ≤ q → q + 1 ≤ i + kk → PX G (CPic G m M0 Q) 2 Y11_feed 34 [some (.ref (Q.1 0 0)), some (.int (nI q)), some (.long b), none, some (.int (nI i))] [] (sFd S b tp i) 0 0 Post := by
  intro kk
  induction kk with
  | zero => intro i h1 h2; omega
  | succ kk ih =>
    intro i h1 h2
    refine px_iload dX11_feed_34 rfl ?_
    refine px_iload_n dX11_feed_36 rfl rfl ?_
    refine px_icmp_ge (tgt := 62) dX11_feed_37 (by decide) (fun H37 => ?_) (fun H37 => ?_)
    · skip
      skip
      have eN : i = q := by have := ge_n (a := i) (b := q) (by omega) (by omega) H37; omega
      rw [eN]
      exact K
    · skip
      skip
      have lN : i < q := lt_n (a := i) (b := q) (by omega) (by omega) H37
      refine px_aload_n dX11_feed_40 rfl rfl ?_
      refine cx_get (k := 0) (i := 0) (f := 3) dX11_feed_41 gX11_25 rfl Nat.one_pos rfl ?_
      refine px_lload_n dX11_feed_44 rfl rfl ?_
      refine px_bipush (v := 8) dX11_feed_45 (by decide) ?_
      refine px_iload dX11_feed_47 rfl ?_
      refine px_imul dX11_feed_49 ?_
      refine px_lushr dX11_feed_50 ?_
      refine px_l2i dX11_feed_51 ?_
      refine px_i2b dX11_feed_52 ?_
      refine cx_callV1 (k := 9) (i := 0) dX11_feed_53 lX11_143 rfl Nat.one_pos rfl (c_X7_addByte G m M0 Q (sFd S b tp i) _ (tp + i) (by simp [sFd, up2, upd]) (by omega)) (by decide) (Nat.le_of_ble_eq_true rfl) (fun S53 Q53 => ?_)
      obtain rfl := Q53.symm
      refine px_iinc_4 (v := 1) dX11_feed_56 (by decide) (by decide) rfl ?_
      refine px_goto (tgt := 34) dX11_feed_59 (by decide) ?_
      refine px_lw (ls' := [some (.ref (Q.1 0 0)), some (.int (nI q)), some (.long b), none, some (.int (nI (i + 1)))]) ?_ (px_S (S' := sFd S b tp (i + 1)) ?_ (ih (i + 1) (by omega) (by omega)))
      · (simp [LW, LW, nI_1, *]; done)
      · rw [byt_eq (by omega), vp_nar_byte, show (bOf b i).toInt8.toInt32 = bOf b i from fb_byte_twice _]
        exact sFd_s
set_option maxHeartbeats 4000000 in
set_option maxRecDepth 100000 in
theorem c_X11_feed (G : Gt) (m : Nat → Prop) (M0 : Nat → va_E) (Q : Qt) (S : MS) (z : Int32) (b : Int64) (tp : Nat) (ht : S 15 0 = nI tp) (ht2 : tp ≤ 160) : PC G (CPic G m M0 Q) 2 Y11_feed [.ref (Q.1 0 0), .int z, .long b] S 0 0 (ri (fun x S' => x = (f_feed S z b).1 ∧ S' = (f_feed S z b).2)) := by
  refine pc_of (ls := [some (.ref (Q.1 0 0)), some (.int z), some (.long b), none, none]) (by decide +kernel) rfl (Nat.le_of_ble_eq_true rfl) ?_
  refine px_iload_n dX11_feed_0 rfl rfl ?_
  refine px_iconst (v := 1) dX11_feed_1 (by decide) ?_
  refine px_bipush (v := 8) dX11_feed_2 (by decide) ?_
  refine px_pure3 dX11_feed_4 lX11_81 (c_X11_isWithin G _ _ _) (by decide) (Nat.le_of_ble_eq_true rfl) ?_
  refine px_if_ne (tgt := 13) dX11_feed_7 (by decide) (fun H7 => ?_) (fun H7 => ?_)
  · skip
    obtain ⟨q, hq8, ez, tq⟩ : ∃ q : Nat, q ≤ 8 ∧ z = nI q ∧ z.toNatClampNeg = q := by
      obtain ⟨q1, q2⟩ := mIn_1.mp H7
      rw [i_lt, show (1 : Int32).toInt = 1 from rfl] at q1
      rw [i_lt, show (8 : Int32).toInt = 8 from rfl] at q2
      exact ⟨z.toInt.toNat, by omega, by rw [i_eq, nI_toInt' (by omega)]; omega, rfl⟩
    subst ez
    refine px_aload_n dX11_feed_13 rfl rfl ?_
    refine cx_get (k := 0) (i := 0) (f := 3) dX11_feed_14 gX11_25 rfl Nat.one_pos rfl ?_
    refine cx_get (k := 9) (i := 0) (f := 1) dX11_feed_17 gX11_140 rfl Nat.one_pos rfl ?_
    refine px_iload_n dX11_feed_20 rfl rfl ?_
    refine px_iadd dX11_feed_21 ?_
    refine px_sipush (v := 160) dX11_feed_22 (by decide) ?_
    refine px_icmp_le (tgt := 31) dX11_feed_25 (by decide) (fun H25 => ?_) (fun H25 => ?_)
    · skip
      rw [ht, nI_add] at H25
      refine px_iconst (v := 0) dX11_feed_31 (by decide) ?_
      refine px_istore_4 dX11_feed_32 (by decide) rfl ?_
      have hl : tp + q ≤ 160 := by have := ge_n (a := 160) (by omega) (by omega) H25; omega
      refine px_S (sFd_0 (b := b) ht) (px_lw (ls' := [some (.ref (Q.1 0 0)), some (.int (nI q)), some (.long b), none, some (.int (nI 0))]) (by simp [LW] <;> rfl) (lp_fdC G m M0 Q S q tp b ht hl hq8 _ ?_ (q + 1) 0 (by omega) (by omega)))
      refine px_aload_n dX11_feed_62 rfl rfl ?_
      refine cx_get (k := 0) (i := 0) (f := 3) dX11_feed_63 gX11_25 rfl Nat.one_pos rfl ?_
      refine cx_get (k := 9) (i := 0) (f := 1) dX11_feed_66 gX11_140 rfl Nat.one_pos rfl ?_
      refine px_iretI dX11_feed_69 rfl ?_
      first
      | exact ⟨by rw [f_feed, if_pos H7], by rw [f_feed, if_pos H7]⟩
      | exact ⟨by rw [f_feed, if_neg H7, ht, nI_add, if_pos H25], by rw [f_feed, if_neg H7, ht, nI_add, if_pos H25]⟩
      | (rw [f_feed, if_neg H7, ht, nI_add, if_neg H25, tq, show tN S = tp from by unfold tN; rw [ht, nI_clamp (by omega)]]
         exact ⟨by simp [sFd, up2, upd], rfl⟩)
    · skip
      rw [ht, nI_add] at H25
      refine px_bipush (v := (-4)) dX11_feed_28 (by decide) ?_
      refine px_iretI dX11_feed_30 rfl ?_
      first
      | exact ⟨by rw [f_feed, if_pos H7], by rw [f_feed, if_pos H7]⟩
      | exact ⟨by rw [f_feed, if_neg H7, ht, nI_add, if_pos H25], by rw [f_feed, if_neg H7, ht, nI_add, if_pos H25]⟩
      | (rw [f_feed, if_neg H7, ht, nI_add, if_neg H25, tq, show tN S = tp from by unfold tN; rw [ht, nI_clamp (by omega)]]
         exact ⟨by simp [sFd, up2, upd], rfl⟩)
  · skip
    refine px_bipush (v := (-2)) dX11_feed_10 (by decide) ?_
    refine px_iretI dX11_feed_12 rfl ?_
    first
    | exact ⟨by rw [f_feed, if_pos H7], by rw [f_feed, if_pos H7]⟩
    | exact ⟨by rw [f_feed, if_neg H7, ht, nI_add, if_pos H25], by rw [f_feed, if_neg H7, ht, nI_add, if_pos H25]⟩
    | (rw [f_feed, if_neg H7, ht, nI_add, if_neg H25, tq, show tN S = tp from by unfold tN; rw [ht, nI_clamp (by omega)]]
       exact ⟨by simp [sFd, up2, upd], rfl⟩)
