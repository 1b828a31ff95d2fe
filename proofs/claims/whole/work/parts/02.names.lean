/-! ===== BEGIN words of one list among another's, by their places ===== -/
theorem goodIn_r {big : List Cond} (ws : List Cond) (ps : List Nat) (hp : ws = ps.filterMap (fun i => big[i]?)) (h : ws.all goodWord = true) : GoodIn big ws := by
  intro w hw
  have h1 := List.all_eq_true.mp h w hw
  rw [hp] at hw
  obtain ⟨i, -, hi⟩ := List.mem_filterMap.mp hw
  have hm : w ∈ big := by first | exact List.mem_of_getElem? hi | exact List.getElem?_mem hi
  exact ⟨hm, good_of_word h1⟩
theorem goodIn_app {big a b : List Cond} (ha : GoodIn big a) (hb : GoodIn big b) : GoodIn big (a ++ b) := fun w h => (List.mem_append.mp h).elim (ha w) (hb w)
theorem goodIn_ca {big a b : List Cond} {c : Cond} (ha : GoodIn big (c :: a)) (hb : GoodIn big b) : GoodIn big (c :: (a ++ b)) := fun w h => (List.mem_cons.mp h).elim (fun e => ha w (List.mem_cons.mpr (Or.inl e))) (fun h => (List.mem_append.mp h).elim (fun h => ha w (List.mem_cons.mpr (Or.inr h))) (hb w))
theorem goodIn_sub {big ws : List Cond} (hm : ∀ w ∈ ws, w ∈ big) (h : ws.all goodWord = true) : GoodIn big ws := fun w hw => ⟨hm w hw, good_of_word (List.all_eq_true.mp h w hw)⟩
/-! ===== END ===== -/

/-! ===== BEGIN new T[n][m]: the outer array a place, the inner ones among the pooled ===== -/
/-- f, but v at every address of l -/
def vr_up {α : Type} (f : Nat → α) (l : List Nat) (v : α) : Nat → α := fun a => if a ∈ l then v else f a
theorem vr_up_in {α : Type} {f : Nat → α} {l : List Nat} {v : α} {a : Nat} (h : a ∈ l) : vr_up f l v a = v := if_pos h
theorem vr_up_ne {α : Type} {f : Nat → α} {l : List Nat} {v : α} {a : Nat} (h : a ∉ l) : vr_up f l v a = f a := if_neg h
theorem vr_rows {L l : List Nat} {f : Nat → va_E} {e : va_E} (h : ∀ a, a ∈ l → a ∉ L) : va_pl L f ++ l.map (fun a => (a, e)) = va_pl (L ++ l) (vr_up f l e) := by
  unfold va_pl
  rw [List.map_append]
  congr 1
  · apply List.map_congr_left
    intro a ha
    rw [vr_up_ne (fun q => h a q ha)]
  · apply List.map_congr_left
    intro a ha
    rw [vr_up_in ha]
theorem vr_lay {X rows : va_W} {x : Nat × va_E} {pl : va_W} {D : va_G} {cl : List vw_C} {H : Heap} (hP : va_P D cl (((X ++ pl) ++ [x]) ++ rows) H) : va_P D cl ((X ++ [x]) ++ (pl ++ rows)) H := by
  rw [List.append_assoc (X ++ pl)] at hP
  have h := va_P.swap hP
  rw [← List.append_assoc X] at h
  have h2 := va_P.swap h
  rw [List.append_assoc (X ++ [x])] at h2
  exact h2
theorem vr_layD {X rows : va_W} {x : Nat × va_E} {pl : va_W} {A : Nat → Prop} (hD : va_D A (((X ++ pl) ++ [x]) ++ rows)) : va_D A ((X ++ [x]) ++ (pl ++ rows)) := by
  rw [List.append_assoc (X ++ pl)] at hD
  have h := va_D.swap hD
  rw [← List.append_assoc X] at h
  have h2 := va_D.swap h
  rw [List.append_assoc (X ++ [x])] at h2
  exact h2
theorem vr_outer (c : ClassId) (N h0 : Nat) : ∀ i : Nat, Jvm.Free.Multi.outerC c N h0 i = arrV c N (fun j => va_rf (if j < i then some (h0 + 1 + j) else none))
  | 0 => by
    show ({ cls := c, slots := Array.replicate N .null, vm := .none } : Cell) = _
    rw [arrV_new]
    refine congrArg (arrV c N) (funext fun j => ?_)
    simp [va_rf]
  | i + 1 => by
    show (Jvm.Free.Multi.outerC c N h0 i).setSlot i (.ref (h0 + 1 + i)) = _
    rw [vr_outer c N h0 i, arrV_store]
    refine congrArg (arrV c N) (funext fun j => ?_)
    by_cases e : j = i
    · subst e
      simp [updV, va_rf]
    · by_cases h : j < i
      · simp [updV, e, h, Nat.lt_succ_of_lt h]
      · simp [updV, e, h, show ¬ j < i + 1 by omega]
section VGM
variable {p : Program} {l : Launch} {e : Env} {R : Room} {s : State} {m : MethodId} {args : Array Value} {below : List Frame} {meth : Method} {c : Code} {H : Heap} {locs : List Loc} {cells slots : Nat} {Q : State → Prop}
variable {cc : ByteArray} {pc : Nat} {ls : Array Slot} {rest : List Value} {D : va_G} {cl : List vw_C} {A : Nat → Prop} {a : Nat} {tys : List (ClassId × FieldType)} {ws : va_W} {H0 : Heap}
theorem va_mna {X : va_W} {L : List Nat} {f : Nat → va_E} {cc : ByteArray} (hexec : p.tables.exec = Jvm.exec) (hb : c.code = cc) {own : String} {index : Nat} {ty : FieldType} {cy : ClassId} (hown : s.vm.findClass own = some m.cls) (hclink : (Cond.classLink own index ("[" ++ (FieldType.array ty).toString)).before args s = true) (hover : va_AOA ty s) (harr : (Cond.arrayClass ty).before args s = true) (hcy : s.vm.findClass (FieldType.array ty).toString = some cy)
    (hK : va_K D cl tys s) (hP : va_P D cl (X ++ va_pl L f) H) (hD : va_D A (X ++ va_pl L f)) (hS : va_S A H0 H locs) (hA : ∀ q, H0.size ≤ q → A q) {n k : Int32} {N' K' : Nat} {z : vp_A} (hn : ¬ n < 0) (hk : ¬ k < 0) (hN : n.toNatClampNeg = N') (hM : k.toNatClampNeg = K')
    (hb1 : N' * 4 ≤ 536870912) (hb2 : K' * componentBytes ty ≤ 536870912) (hb3 : K' ≤ 536870912) (hdf : fits ty (defaultValue ty) = true) (hdd : (defaultValue ty).isDefault = true) (hcells : cells + (1 + N') ≤ R.cells) (hslots : slots + (N' + N' * K') ≤ R.slots) (hz : ∀ c : ClassId, Jvm.Free.Multi.innerC c K' (defaultValue ty) = vp_cell c z) (hdg : decode cc pc = .ok (.multianewarray index 2, 4))
    (kk : ∀ (q : Nat) (r : Nat → Nat) (cA : ClassId) (H1 : Heap), (∀ i j : Nat, i < N' → j < N' → r i = r j → i = j) → (∀ i : Nat, i < N' → r i ∉ L) → va_K D cl (tys ++ [(cA, .array ty)]) s →
      va_P D cl ((X ++ [(q, .inl (cA, N', .inr (.inr (.inr (.inr (fun i => if i < N' then some (r i) else none))))))]) ++ va_pl (L ++ (List.range N').map r) (vr_up f ((List.range N').map r) (.inl (cy, z)))) H1 → va_D A ((X ++ [(q, .inl (cA, N', .inr (.inr (.inr (.inr (fun i => if i < N' then some (r i) else none))))))]) ++ va_pl (L ++ (List.range N').map r) (vr_up f ((List.range N').map r) (.inl (cy, z)))) → va_S A H0 H1 locs →
      W p l e R s m args below meth c H1 locs (cells + 1 + N') (slots + N' + N' * K') Q (F0 m (pc + 4) ls (.ref q :: rest))) : W p l e R s m args below meth c H locs cells slots Q (F0 m pc ls (.int k :: .int n :: rest)) := by
  subst hN
  subst hM
  intro T hT Xs
  obtain ⟨vm₁, cA, comp, -, fA, fC, hO, -, X', step⟩ := Xs.multianewarray2F hexec hown hclink (va_AOA.use hover) harr (g := F0 m pc ls (.int k :: .int n :: rest)) rfl (by rw [hb]; exact hdg) rfl hn hk hb1 hb2 hb3 hdf hdd hcells hslots
  have ec : some cy = some comp := hcy.symm.trans fC
  cases ec
  generalize hF : Jvm.Free.Multi.fill (T.setVm vm₁) cA cy n.toNatClampNeg k.toNatClampNeg (defaultValue ty) n.toNatClampNeg = F at X' step
  have hTh : (T.setVm vm₁).heap = H := hT
  obtain ⟨f1, f2, -, -⟩ := Jvm.Free.Multi.fill_facts (T.setVm vm₁) cA cy n.toNatClampNeg k.toNatClampNeg (defaultValue ty) n.toNatClampNeg
  rw [hF, hTh] at f1 f2
  have hold : ∀ x : Nat, x < H.size → F.heap[x]? = H[x]? := fun x hx => by
    have := Jvm.Free.Multi.fill_old (T.setVm vm₁) cA cy n.toNatClampNeg k.toNatClampNeg (defaultValue ty) (a := x) (by rw [hTh]; exact hx) n.toNatClampNeg
    rw [hF, hTh] at this
    exact this
  have hrow : ∀ j : Nat, j < n.toNatClampNeg → F.heap[H.size + 1 + j]? = some (vp_cell cy z) := fun j hj => by
    have := Jvm.Free.Multi.fill_inner (T.setVm vm₁) cA cy n.toNatClampNeg k.toNatClampNeg (defaultValue ty) n.toNatClampNeg j hj
    rw [hF, hTh, hz] at this
    exact this
  have hout : Jvm.Free.Multi.outerC cA n.toNatClampNeg H.size n.toNatClampNeg = vp_cell cA (n.toNatClampNeg, .inr (.inr (.inr (.inr (fun i => if i < n.toNatClampNeg then some (H.size + 1 + i) else none))))) := by
    rw [vp_cell_q]
    exact vr_outer cA n.toNatClampNeg H.size n.toNatClampNeg
  rw [hout] at f2
  have hlt : ∀ a, a ∈ L → a < H.size := fun a ha => by
    obtain ⟨k9, hk9⟩ := va_pl_get (X := X) (f := f) ha
    exact (hP k9 _ hk9).lt
  have hnl : ∀ i : Nat, i < n.toNatClampNeg → H.size + 1 + i ∉ L := fun i _ h => by
    have := hlt _ h
    omega
  have hnm : ∀ a, a ∈ (List.range n.toNatClampNeg).map (fun i => H.size + 1 + i) → a ∉ L := fun a ha h => by
    obtain ⟨i, -, rfl⟩ := List.mem_map.mp ha
    have := hlt _ h
    omega
  have hP0 : va_P D cl (X ++ va_pl L f) F.heap := hP.kept (fun k9 x hx => hold x.1 ((hP k9 x hx).lt))
  have hP1 : va_P D cl ((X ++ va_pl L f) ++ [(H.size, .inl (cA, n.toNatClampNeg, .inr (.inr (.inr (.inr (fun i => if i < n.toNatClampNeg then some (H.size + 1 + i) else none))))))]) F.heap := hP0.app (fun k9 x hx => by
    have h0 : k9 < 1 := (List.getElem?_eq_some_iff.mp hx).1
    rw [show k9 = 0 by omega] at hx
    cases hx
    exact f2)
  have hP2 : va_P D cl (((X ++ va_pl L f) ++ [(H.size, .inl (cA, n.toNatClampNeg, .inr (.inr (.inr (.inr (fun i => if i < n.toNatClampNeg then some (H.size + 1 + i) else none))))))]) ++ ((List.range n.toNatClampNeg).map (fun i => H.size + 1 + i)).map (fun a => (a, .inl (cy, z)))) F.heap := hP1.app (fun k9 x hx => by
    obtain ⟨a, ha, rfl⟩ := List.mem_map.mp (List.mem_of_getElem? hx)
    obtain ⟨i, hi, rfl⟩ := List.mem_map.mp ha
    exact hrow i (List.mem_range.mp hi))
  have hD2 : va_D A (((X ++ va_pl L f) ++ [(H.size, .inl (cA, n.toNatClampNeg, .inr (.inr (.inr (.inr (fun i => if i < n.toNatClampNeg then some (H.size + 1 + i) else none))))))]) ++ ((List.range n.toNatClampNeg).map (fun i => H.size + 1 + i)).map (fun a => (a, .inl (cy, z)))) := by
    have hD1 := hD.push (e := .inl (cA, n.toNatClampNeg, .inr (.inr (.inr (.inr (fun i => if i < n.toNatClampNeg then some (H.size + 1 + i) else none)))))) hP rfl (hA _ hS.1)
    generalize hW1 : (X ++ va_pl L f) ++ [(H.size, .inl (cA, n.toNatClampNeg, .inr (.inr (.inr (.inr (fun i => if i < n.toNatClampNeg then some (H.size + 1 + i) else none))))))] = W1 at hD1 hP1 ⊢
    have hle : ∀ (k9 : Nat) (x : Nat × va_E), W1[k9]? = some x → x.1 ≤ H.size := fun k9 x hx => by
      rw [← hW1] at hx
      by_cases hl : k9 < (X ++ va_pl L f).length
      · rw [List.getElem?_append_left hl] at hx
        exact Nat.le_of_lt ((hP k9 x hx).lt)
      · rw [List.getElem?_append_right (by omega)] at hx
        have h0 : k9 - (X ++ va_pl L f).length < 1 := (List.getElem?_eq_some_iff.mp hx).1
        rw [show k9 - (X ++ va_pl L f).length = 0 by omega] at hx
        cases hx
        exact Nat.le_refl _
    have hr : ∀ (k9 : Nat) (x : Nat × va_E), (((List.range n.toNatClampNeg).map (fun i => H.size + 1 + i)).map (fun a => ((a, .inl (cy, z)) : Nat × va_E)))[k9]? = some x → x.1 = H.size + 1 + k9 := fun k9 x hx => by
      rw [List.getElem?_map, List.getElem?_map] at hx
      by_cases h9 : k9 < n.toNatClampNeg
      · rw [List.getElem?_range h9] at hx
        cases hx
        rfl
      · have hn0 : (List.range n.toNatClampNeg)[k9]? = none := List.getElem?_eq_none (by rw [List.length_range]; omega)
        rw [hn0] at hx
        cases hx
    refine ⟨fun i j x y hi hj hxy => ?_, fun k9 x hx => ?_⟩
    · by_cases h1 : i < W1.length <;> by_cases h2 : j < W1.length
      · rw [List.getElem?_append_left h1] at hi
        rw [List.getElem?_append_left h2] at hj
        exact hD1.1 i j x y hi hj hxy
      · rw [List.getElem?_append_left h1] at hi
        rw [List.getElem?_append_right (by omega)] at hj
        have := hle _ _ hi
        have := hr _ _ hj
        omega
      · rw [List.getElem?_append_right (by omega)] at hi
        rw [List.getElem?_append_left h2] at hj
        have := hle _ _ hj
        have := hr _ _ hi
        omega
      · rw [List.getElem?_append_right (by omega)] at hi hj
        have := hr _ _ hi
        have := hr _ _ hj
        omega
    · by_cases h1 : k9 < W1.length
      · rw [List.getElem?_append_left h1] at hx
        exact hD1.2 k9 x hx
      · rw [List.getElem?_append_right (by omega)] at hx
        have := hr _ _ hx
        exact hA _ (by have := hS.1; omega)
  have hAr : ArrOfT s cA (.array ty) := fun N9 z9 => by
    obtain ⟨-, k9, hk9, cm9, hkk9⟩ := (hO 0 0 0).1
    exact ⟨(fun q hq => by cases hq), k9, hk9, cm9, hkk9⟩
  have hK2 : va_K D cl (tys ++ [(cA, .array ty)]) s := ⟨hK.1, fun k9 x hx => by
    by_cases hl : k9 < tys.length
    · rw [List.getElem?_append_left hl] at hx
      exact hK.2 k9 x hx
    · rw [List.getElem?_append_right (by omega)] at hx
      have h0 : k9 - tys.length < 1 := (List.getElem?_eq_some_iff.mp hx).1
      rw [show k9 - tys.length = 0 by omega] at hx
      cases hx
      exact ⟨hAr, fA⟩⟩
  obtain ⟨t, a1, b1⟩ := kk H.size (fun i => H.size + 1 + i) cA F.heap (fun i j _ _ h => by have h9 : H.size + 1 + i = H.size + 1 + j := h; omega) hnl hK2 (by rw [← vr_rows hnm]; exact vr_lay hP2) (by rw [← vr_rows hnm]; exact vr_layD hD2) ⟨by rw [f1]; have := hS.1; omega, fun x h1 h2 => (hold x (Nat.lt_of_lt_of_le h1 hS.1)).trans (hS.2.1 x h1 h2), hS.2.2⟩ F rfl X'
  refine ⟨t, step t ?_, b1⟩
  have e : T.heap.size = H.size := by rw [hT]
  rw [e]
  exact a1
end VGM
/-! ===== END ===== -/

def RX0 : String := "SleeveDarker$Begun"
def TX0 : u_T := fun k => match k with
  | 0 => ("SleeveDarker$Coat", "kind", "I", true)
  | 1 => ("SleeveDarker$Coat", "size", "I", true)
  | 2 => ("SleeveDarker$Coat", "number", "I", true)
  | 3 => ("SleeveDarker$Coat", "worth", "I", true)
  | 4 => ("SleeveDarker$Coat", "done", "Z", false)
  | 5 => ("SleeveDarker$Coat", "parting", "I", false)
  | 6 => ("SleeveDarker$Coat", "day", "I", false)
  | 7 => ("SleeveDarker$Coat", "imageDone", "Z", false)
  | 8 => ("SleeveDarker$Coat", "imageParting", "I", false)
  | _ => ("SleeveDarker$Coat", "imageDay", "I", false)
def tyX0 : Nat → FieldType := fun k => match k with
  | 0 => .int
  | 1 => .int
  | 2 => .int
  | 3 => .int
  | 4 => .boolean
  | 5 => .int
  | 6 => .int
  | 7 => .boolean
  | 8 => .int
  | _ => .int
abbrev wsX00 : List Cond := u_ws RX0 TX0 10
theorem nmX0 : ∀ a, a < 10 → ∀ b, b < 10 → a ≠ b → (TX0 a).2.1 ≠ (TX0 b).2.1 := by decide +kernel
theorem tyX0_ok : ∀ k, k < 10 → parseFieldDescriptor (TX0 k).2.2.1 = some (tyX0 k) := by decide +kernel
abbrev cX0_init : ByteArray := prog_2_method_1_code
def yX0_init : MethodName := ⟨RX0, "<init>", "(IIII)V"⟩
abbrev cX0_takes : ByteArray := prog_2_method_2_code
def yX0_takes : MethodName := ⟨RX0, "takes", "(I)I"⟩
def RX1 : String := "SleeveDarker$Blend"
def TX1 : u_T := fun k => match k with
  | 0 => ("SleeveDarker$Coat", "kind", "I", true)
  | 1 => ("SleeveDarker$Coat", "size", "I", true)
  | 2 => ("SleeveDarker$Coat", "number", "I", true)
  | 3 => ("SleeveDarker$Coat", "worth", "I", true)
  | 4 => ("SleeveDarker$Coat", "done", "Z", false)
  | 5 => ("SleeveDarker$Coat", "parting", "I", false)
  | 6 => ("SleeveDarker$Coat", "day", "I", false)
  | 7 => ("SleeveDarker$Coat", "imageDone", "Z", false)
  | 8 => ("SleeveDarker$Coat", "imageParting", "I", false)
  | _ => ("SleeveDarker$Coat", "imageDay", "I", false)
def tyX1 : Nat → FieldType := fun k => match k with
  | 0 => .int
  | 1 => .int
  | 2 => .int
  | 3 => .int
  | 4 => .boolean
  | 5 => .int
  | 6 => .int
  | 7 => .boolean
  | 8 => .int
  | _ => .int
abbrev wsX10 : List Cond := u_ws RX1 TX1 10
theorem nmX1 : ∀ a, a < 10 → ∀ b, b < 10 → a ≠ b → (TX1 a).2.1 ≠ (TX1 b).2.1 := by decide +kernel
theorem tyX1_ok : ∀ k, k < 10 → parseFieldDescriptor (TX1 k).2.2.1 = some (tyX1 k) := by decide +kernel
abbrev cX1_init : ByteArray := prog_3_method_1_code
def yX1_init : MethodName := ⟨RX1, "<init>", "(IIII)V"⟩
abbrev cX1_bears : ByteArray := prog_3_method_2_code
def yX1_bears : MethodName := ⟨RX1, "bears", "(I)I"⟩
def RX2 : String := "SleeveDarker$Coat"
def TX2 : u_T := fun k => match k with
  | 0 => ("SleeveDarker$Coat", "kind", "I", true)
  | 1 => ("SleeveDarker$Coat", "size", "I", true)
  | 2 => ("SleeveDarker$Coat", "number", "I", true)
  | 3 => ("SleeveDarker$Coat", "worth", "I", true)
  | 4 => ("SleeveDarker$Coat", "done", "Z", false)
  | 5 => ("SleeveDarker$Coat", "parting", "I", false)
  | 6 => ("SleeveDarker$Coat", "day", "I", false)
  | 7 => ("SleeveDarker$Coat", "imageDone", "Z", false)
  | 8 => ("SleeveDarker$Coat", "imageParting", "I", false)
  | _ => ("SleeveDarker$Coat", "imageDay", "I", false)
def tyX2 : Nat → FieldType := fun k => match k with
  | 0 => .int
  | 1 => .int
  | 2 => .int
  | 3 => .int
  | 4 => .boolean
  | 5 => .int
  | 6 => .int
  | 7 => .boolean
  | 8 => .int
  | _ => .int
abbrev wsX20 : List Cond := u_ws RX2 TX2 10
theorem nmX2 : ∀ a, a < 10 → ∀ b, b < 10 → a ≠ b → (TX2 a).2.1 ≠ (TX2 b).2.1 := by decide +kernel
theorem tyX2_ok : ∀ k, k < 10 → parseFieldDescriptor (TX2 k).2.2.1 = some (tyX2 k) := by decide +kernel
abbrev cX2_init : ByteArray := prog_4_method_1_code
def yX2_init : MethodName := ⟨RX2, "<init>", "(IIII)V"⟩
abbrev cX2_takes : ByteArray := prog_4_method_2_code
def yX2_takes : MethodName := ⟨RX2, "takes", "(I)I"⟩
abbrev cX2_bears : ByteArray := prog_4_method_3_code
def yX2_bears : MethodName := ⟨RX2, "bears", "(I)I"⟩
abbrev cX2_brings : ByteArray := prog_4_method_4_code
def yX2_brings : MethodName := ⟨RX2, "brings", "()I"⟩
abbrev cX2_takesInAll : ByteArray := prog_4_method_5_code
def yX2_takesInAll : MethodName := ⟨RX2, "takesInAll", "()I"⟩
abbrev cX2_finish : ByteArray := prog_4_method_6_code
def yX2_finish : MethodName := ⟨RX2, "finish", "(II)V"⟩
abbrev cX2_keepImage : ByteArray := prog_4_method_7_code
def yX2_keepImage : MethodName := ⟨RX2, "keepImage", "()V"⟩
abbrev cX2_layBack : ByteArray := prog_4_method_8_code
def yX2_layBack : MethodName := ⟨RX2, "layBack", "()V"⟩
def RX3 : String := "SleeveDarker$Cutter"
def TX3 : u_T := fun k => match k with
  | 0 => ("SleeveDarker$Cutter", "best", "I", false)
  | 1 => ("SleeveDarker$Cutter", "bestBits", "I", false)
  | 2 => ("SleeveDarker$Cutter", "ways", "I", false)
  | 3 => ("SleeveDarker$Cutter", "hankCount", "I", false)
  | 4 => ("SleeveDarker$Cutter", "have", "[I", true)
  | 5 => ("SleeveDarker$Cutter", "used", "[I", true)
  | 6 => ("SleeveDarker$Cutter", "apart", "[I", true)
  | 7 => ("SleeveDarker$Cutter", "takes", "[I", true)
  | 8 => ("SleeveDarker$Cutter", "bears", "[I", true)
  | 9 => ("SleeveDarker$Cutter", "picked", "[I", true)
  | 10 => ("SleeveDarker$Cutter", "countsAll", "Z", false)
  | _ => ("SleeveDarker$Cutter", "settled", "Z", false)
def tyX3 : Nat → FieldType := fun k => match k with
  | 0 => .int
  | 1 => .int
  | 2 => .int
  | 3 => .int
  | 4 => .array .int
  | 5 => .array .int
  | 6 => .array .int
  | 7 => .array .int
  | 8 => .array .int
  | 9 => .array .int
  | 10 => .boolean
  | _ => .boolean
abbrev wsX30 : List Cond := u_ws RX3 TX3 12
theorem nmX3 : ∀ a, a < 12 → ∀ b, b < 12 → a ≠ b → (TX3 a).2.1 ≠ (TX3 b).2.1 := by decide +kernel
theorem tyX3_ok : ∀ k, k < 12 → parseFieldDescriptor (TX3 k).2.2.1 = some (tyX3 k) := by decide +kernel
abbrev cX3_init : ByteArray := prog_5_method_1_code
def yX3_init : MethodName := ⟨RX3, "<init>", "()V"⟩
abbrev cX3_layOut : ByteArray := prog_5_method_2_code
def yX3_layOut : MethodName := ⟨RX3, "layOut", "(LSleeveDarker$Coat;LSleeveDarker$Text;LSleeveDarker$Wool;[I)V"⟩
abbrev cX3_fitTogether : ByteArray := prog_5_method_3_code
def yX3_fitTogether : MethodName := ⟨RX3, "fitTogether", "(III)Z"⟩
abbrev cX3_firstWrong : ByteArray := prog_5_method_4_code
def yX3_firstWrong : MethodName := ⟨RX3, "firstWrong", "(I)I"⟩
abbrev cX3_takeAway : ByteArray := prog_5_method_5_code
def yX3_takeAway : MethodName := ⟨RX3, "takeAway", "(I[I)V"⟩
abbrev cX3_findBest : ByteArray := prog_5_method_6_code
def yX3_findBest : MethodName := ⟨RX3, "findBest", "(Z)V"⟩
abbrev cX3_pickFrom : ByteArray := prog_5_method_7_code
def yX3_pickFrom : MethodName := ⟨RX3, "pickFrom", "(II)V"⟩
abbrev cX3_fitsBelow : ByteArray := prog_5_method_8_code
def yX3_fitsBelow : MethodName := ⟨RX3, "fitsBelow", "(II)Z"⟩
abbrev cX3_weigh : ByteArray := prog_5_method_9_code
def yX3_weigh : MethodName := ⟨RX3, "weigh", "(I)V"⟩
def RX4 : String := "SleeveDarker$Fine"
def TX4 : u_T := fun k => match k with
  | 0 => ("SleeveDarker$Coat", "kind", "I", true)
  | 1 => ("SleeveDarker$Coat", "size", "I", true)
  | 2 => ("SleeveDarker$Coat", "number", "I", true)
  | 3 => ("SleeveDarker$Coat", "worth", "I", true)
  | 4 => ("SleeveDarker$Coat", "done", "Z", false)
  | 5 => ("SleeveDarker$Coat", "parting", "I", false)
  | 6 => ("SleeveDarker$Coat", "day", "I", false)
  | 7 => ("SleeveDarker$Coat", "imageDone", "Z", false)
  | 8 => ("SleeveDarker$Coat", "imageParting", "I", false)
  | _ => ("SleeveDarker$Coat", "imageDay", "I", false)
def tyX4 : Nat → FieldType := fun k => match k with
  | 0 => .int
  | 1 => .int
  | 2 => .int
  | 3 => .int
  | 4 => .boolean
  | 5 => .int
  | 6 => .int
  | 7 => .boolean
  | 8 => .int
  | _ => .int
abbrev wsX40 : List Cond := u_ws RX4 TX4 10
theorem nmX4 : ∀ a, a < 10 → ∀ b, b < 10 → a ≠ b → (TX4 a).2.1 ≠ (TX4 b).2.1 := by decide +kernel
theorem tyX4_ok : ∀ k, k < 10 → parseFieldDescriptor (TX4 k).2.2.1 = some (tyX4 k) := by decide +kernel
abbrev cX4_init : ByteArray := prog_6_method_1_code
def yX4_init : MethodName := ⟨RX4, "<init>", "(IIII)V"⟩
abbrev cX4_takes : ByteArray := prog_6_method_2_code
def yX4_takes : MethodName := ⟨RX4, "takes", "(I)I"⟩
abbrev cX4_bears : ByteArray := prog_6_method_3_code
def yX4_bears : MethodName := ⟨RX4, "bears", "(I)I"⟩
abbrev cX4_brings : ByteArray := prog_6_method_4_code
def yX4_brings : MethodName := ⟨RX4, "brings", "()I"⟩
def RX5 : String := "SleeveDarker$Planner"
def TX5 : u_T := fun k => match k with
  | 0 => ("SleeveDarker$Planner", "bestValue", "I", false)
  | 1 => ("SleeveDarker$Planner", "bestOrder", "I", false)
  | 2 => ("SleeveDarker$Planner", "bestLength", "I", false)
  | 3 => ("SleeveDarker$Planner", "cutter", "LSleeveDarker$Cutter;", true)
  | 4 => ("SleeveDarker$Planner", "open", "[LSleeveDarker$Coat;", true)
  | _ => ("SleeveDarker$Planner", "ounces", "[[I", true)
def tyX5 : Nat → FieldType := fun k => match k with
  | 0 => .int
  | 1 => .int
  | 2 => .int
  | 3 => .object "SleeveDarker$Cutter"
  | 4 => .array (.object "SleeveDarker$Coat")
  | _ => .array (.array .int)
abbrev wsX50 : List Cond := u_ws RX5 TX5 6
theorem nmX5 : ∀ a, a < 6 → ∀ b, b < 6 → a ≠ b → (TX5 a).2.1 ≠ (TX5 b).2.1 := by decide +kernel
theorem tyX5_ok : ∀ k, k < 6 → parseFieldDescriptor (TX5 k).2.2.1 = some (tyX5 k) := by decide +kernel
abbrev cX5_init : ByteArray := prog_7_method_1_code
def yX5_init : MethodName := ⟨RX5, "<init>", "()V"⟩
abbrev cX5_plan : ByteArray := prog_7_method_2_code
def yX5_plan : MethodName := ⟨RX5, "plan", "([LSleeveDarker$Coat;LSleeveDarker$Text;LSleeveDarker$Wool;II)V"⟩
abbrev cX5_bound : ByteArray := prog_7_method_3_code
def yX5_bound : MethodName := ⟨RX5, "bound", "([LSleeveDarker$Coat;I)I"⟩
abbrev cX5_keepOpen : ByteArray := prog_7_method_4_code
def yX5_keepOpen : MethodName := ⟨RX5, "keepOpen", "([LSleeveDarker$Coat;)V"⟩
abbrev cX5_goOn : ByteArray := prog_7_method_5_code
def yX5_goOn : MethodName := ⟨RX5, "goOn", "(LSleeveDarker$Text;LSleeveDarker$Wool;IIII)V"⟩
abbrev cX5_isBetter : ByteArray := prog_7_method_6_code
def yX5_isBetter : MethodName := ⟨RX5, "isBetter", "(III)Z"⟩
def RX6 : String := "SleeveDarker$Promised"
def TX6 : u_T := fun k => match k with
  | 0 => ("SleeveDarker$Coat", "kind", "I", true)
  | 1 => ("SleeveDarker$Coat", "size", "I", true)
  | 2 => ("SleeveDarker$Coat", "number", "I", true)
  | 3 => ("SleeveDarker$Coat", "worth", "I", true)
  | 4 => ("SleeveDarker$Coat", "done", "Z", false)
  | 5 => ("SleeveDarker$Coat", "parting", "I", false)
  | 6 => ("SleeveDarker$Coat", "day", "I", false)
  | 7 => ("SleeveDarker$Coat", "imageDone", "Z", false)
  | 8 => ("SleeveDarker$Coat", "imageParting", "I", false)
  | _ => ("SleeveDarker$Coat", "imageDay", "I", false)
def tyX6 : Nat → FieldType := fun k => match k with
  | 0 => .int
  | 1 => .int
  | 2 => .int
  | 3 => .int
  | 4 => .boolean
  | 5 => .int
  | 6 => .int
  | 7 => .boolean
  | 8 => .int
  | _ => .int
abbrev wsX60 : List Cond := u_ws RX6 TX6 10
theorem nmX6 : ∀ a, a < 10 → ∀ b, b < 10 → a ≠ b → (TX6 a).2.1 ≠ (TX6 b).2.1 := by decide +kernel
theorem tyX6_ok : ∀ k, k < 10 → parseFieldDescriptor (TX6 k).2.2.1 = some (tyX6 k) := by decide +kernel
abbrev cX6_init : ByteArray := prog_8_method_1_code
def yX6_init : MethodName := ⟨RX6, "<init>", "(IIII)V"⟩
abbrev cX6_bears : ByteArray := prog_8_method_2_code
def yX6_bears : MethodName := ⟨RX6, "bears", "(I)I"⟩
abbrev cX6_brings : ByteArray := prog_8_method_3_code
def yX6_brings : MethodName := ⟨RX6, "brings", "()I"⟩
abbrev cX6_daysLate : ByteArray := prog_8_method_4_code
def yX6_daysLate : MethodName := ⟨RX6, "daysLate", "(I)I"⟩
def RX7 : String := "SleeveDarker$Reader"
def TX7 : u_T := fun k => match k with
  | 0 => ("SleeveDarker$Reader", "fault", "I", false)
  | 1 => ("SleeveDarker$Reader", "tapeSize", "I", false)
  | 2 => ("SleeveDarker$Reader", "tape", "[B", true)
  | 3 => ("SleeveDarker$Reader", "token", "I", false)
  | 4 => ("SleeveDarker$Reader", "tokenStart", "I", false)
  | 5 => ("SleeveDarker$Reader", "tokenEnd", "I", false)
  | 6 => ("SleeveDarker$Reader", "number", "I", false)
  | 7 => ("SleeveDarker$Reader", "open", "I", false)
  | 8 => ("SleeveDarker$Reader", "code", "[I", true)
  | _ => ("SleeveDarker$Reader", "codeSize", "I", false)
def tyX7 : Nat → FieldType := fun k => match k with
  | 0 => .int
  | 1 => .int
  | 2 => .array .byte
  | 3 => .int
  | 4 => .int
  | 5 => .int
  | 6 => .int
  | 7 => .int
  | 8 => .array .int
  | _ => .int
abbrev wsX70 : List Cond := u_ws RX7 TX7 10
theorem nmX7 : ∀ a, a < 10 → ∀ b, b < 10 → a ≠ b → (TX7 a).2.1 ≠ (TX7 b).2.1 := by decide +kernel
theorem tyX7_ok : ∀ k, k < 10 → parseFieldDescriptor (TX7 k).2.2.1 = some (tyX7 k) := by decide +kernel
abbrev cX7_init : ByteArray := prog_9_method_1_code
def yX7_init : MethodName := ⟨RX7, "<init>", "()V"⟩
abbrev cX7_addByte : ByteArray := prog_9_method_2_code
def yX7_addByte : MethodName := ⟨RX7, "addByte", "(B)V"⟩
abbrev cX7_readTape : ByteArray := prog_9_method_3_code
def yX7_readTape : MethodName := ⟨RX7, "readTape", "()LSleeveDarker$Text;"⟩
abbrev cX7_readE : ByteArray := prog_9_method_4_code
def yX7_readE : MethodName := ⟨RX7, "readE", "()V"⟩
abbrev cX7_readAnd : ByteArray := prog_9_method_5_code
def yX7_readAnd : MethodName := ⟨RX7, "readAnd", "()V"⟩
abbrev cX7_readNot : ByteArray := prog_9_method_6_code
def yX7_readNot : MethodName := ⟨RX7, "readNot", "()V"⟩
abbrev cX7_readSum : ByteArray := prog_9_method_7_code
def yX7_readSum : MethodName := ⟨RX7, "readSum", "()V"⟩
abbrev cX7_readTerm : ByteArray := prog_9_method_8_code
def yX7_readTerm : MethodName := ⟨RX7, "readTerm", "()V"⟩
abbrev cX7_readOne : ByteArray := prog_9_method_9_code
def yX7_readOne : MethodName := ⟨RX7, "readOne", "()V"⟩
abbrev cX7_opened : ByteArray := prog_9_method_10_code
def yX7_opened : MethodName := ⟨RX7, "opened", "()Z"⟩
abbrev cX7_accept : ByteArray := prog_9_method_11_code
def yX7_accept : MethodName := ⟨RX7, "accept", "(I)Z"⟩
abbrev cX7_need : ByteArray := prog_9_method_12_code
def yX7_need : MethodName := ⟨RX7, "need", "(I)V"⟩
abbrev cX7_fail : ByteArray := prog_9_method_13_code
def yX7_fail : MethodName := ⟨RX7, "fail", "()V"⟩
abbrev cX7_emit : ByteArray := prog_9_method_14_code
def yX7_emit : MethodName := ⟨RX7, "emit", "(I)V"⟩
abbrev cX7_step : ByteArray := prog_9_method_15_code
def yX7_step : MethodName := ⟨RX7, "step", "()V"⟩
abbrev cX7_takeNumber : ByteArray := prog_9_method_16_code
def yX7_takeNumber : MethodName := ⟨RX7, "takeNumber", "()V"⟩
abbrev cX7_takeWord : ByteArray := prog_9_method_17_code
def yX7_takeWord : MethodName := ⟨RX7, "takeWord", "()V"⟩
abbrev cX7_isSpelled : ByteArray := prog_9_method_18_code
def yX7_isSpelled : MethodName := ⟨RX7, "isSpelled", "(II)Z"⟩
abbrev cX7_isBlank : ByteArray := prog_9_method_19_code
def yX7_isBlank : MethodName := ⟨RX7, "isBlank", "(I)Z"⟩
abbrev cX7_isDigit : ByteArray := prog_9_method_20_code
def yX7_isDigit : MethodName := ⟨RX7, "isDigit", "(I)Z"⟩
abbrev cX7_isLetter : ByteArray := prog_9_method_21_code
def yX7_isLetter : MethodName := ⟨RX7, "isLetter", "(I)Z"⟩
def RX8 : String := "SleeveDarker$Striped"
def TX8 : u_T := fun k => match k with
  | 0 => ("SleeveDarker$Coat", "kind", "I", true)
  | 1 => ("SleeveDarker$Coat", "size", "I", true)
  | 2 => ("SleeveDarker$Coat", "number", "I", true)
  | 3 => ("SleeveDarker$Coat", "worth", "I", true)
  | 4 => ("SleeveDarker$Coat", "done", "Z", false)
  | 5 => ("SleeveDarker$Coat", "parting", "I", false)
  | 6 => ("SleeveDarker$Coat", "day", "I", false)
  | 7 => ("SleeveDarker$Coat", "imageDone", "Z", false)
  | 8 => ("SleeveDarker$Coat", "imageParting", "I", false)
  | _ => ("SleeveDarker$Coat", "imageDay", "I", false)
def tyX8 : Nat → FieldType := fun k => match k with
  | 0 => .int
  | 1 => .int
  | 2 => .int
  | 3 => .int
  | 4 => .boolean
  | 5 => .int
  | 6 => .int
  | 7 => .boolean
  | 8 => .int
  | _ => .int
abbrev wsX80 : List Cond := u_ws RX8 TX8 10
theorem nmX8 : ∀ a, a < 10 → ∀ b, b < 10 → a ≠ b → (TX8 a).2.1 ≠ (TX8 b).2.1 := by decide +kernel
theorem tyX8_ok : ∀ k, k < 10 → parseFieldDescriptor (TX8 k).2.2.1 = some (tyX8 k) := by decide +kernel
abbrev cX8_init : ByteArray := prog_10_method_1_code
def yX8_init : MethodName := ⟨RX8, "<init>", "(IIII)V"⟩
abbrev cX8_bears : ByteArray := prog_10_method_2_code
def yX8_bears : MethodName := ⟨RX8, "bears", "(I)I"⟩
abbrev cX8_brings : ByteArray := prog_10_method_3_code
def yX8_brings : MethodName := ⟨RX8, "brings", "()I"⟩
def RX9 : String := "SleeveDarker$Text"
def TX9 : u_T := fun k => match k with
  | 0 => ("SleeveDarker$Text", "code", "[I", true)
  | 1 => ("SleeveDarker$Text", "ends", "[I", true)
  | 2 => ("SleeveDarker$Text", "stack", "[I", true)
  | _ => ("SleeveDarker$Text", "names", "[I", true)
def tyX9 : Nat → FieldType := fun k => match k with
  | 0 => .array .int
  | 1 => .array .int
  | 2 => .array .int
  | _ => .array .int
abbrev wsX90 : List Cond := u_ws RX9 TX9 4
theorem nmX9 : ∀ a, a < 4 → ∀ b, b < 4 → a ≠ b → (TX9 a).2.1 ≠ (TX9 b).2.1 := by decide +kernel
theorem tyX9_ok : ∀ k, k < 4 → parseFieldDescriptor (TX9 k).2.2.1 = some (tyX9 k) := by decide +kernel
abbrev cX9_init : ByteArray := prog_11_method_1_code
def yX9_init : MethodName := ⟨RX9, "<init>", "([I[I)V"⟩
abbrev cX9_firstRule : ByteArray := prog_11_method_2_code
def yX9_firstRule : MethodName := ⟨RX9, "firstRule", "()LSleeveDarker$Text;"⟩
abbrev cX9_seenApart : ByteArray := prog_11_method_3_code
def yX9_seenApart : MethodName := ⟨RX9, "seenApart", "(LSleeveDarker$Wool;[III)I"⟩
abbrev cX9_bearsInAll : ByteArray := prog_11_method_4_code
def yX9_bearsInAll : MethodName := ⟨RX9, "bearsInAll", "(LSleeveDarker$Coat;I)I"⟩
abbrev cX9_keepBy : ByteArray := prog_11_method_5_code
def yX9_keepBy : MethodName := ⟨RX9, "keepBy", "(LSleeveDarker$Coat;)I"⟩
abbrev cX9_nameNumbers : ByteArray := prog_11_method_6_code
def yX9_nameNumbers : MethodName := ⟨RX9, "nameNumbers", "(IIIIII)V"⟩
abbrev cX9_valueOf : ByteArray := prog_11_method_7_code
def yX9_valueOf : MethodName := ⟨RX9, "valueOf", "(I)I"⟩
abbrev cX9_ofOne : ByteArray := prog_11_method_8_code
def yX9_ofOne : MethodName := ⟨RX9, "ofOne", "(II)I"⟩
abbrev cX9_ofTwo : ByteArray := prog_11_method_9_code
def yX9_ofTwo : MethodName := ⟨RX9, "ofTwo", "(III)I"⟩
def RX10 : String := "SleeveDarker$Wool"
def TX10 : u_T := fun k => match k with
  | 0 => ("SleeveDarker$Wool", "ounces", "[I", true)
  | 1 => ("SleeveDarker$Wool", "shade", "[I", true)
  | 2 => ("SleeveDarker$Wool", "vat", "[I", true)
  | 3 => ("SleeveDarker$Wool", "faded", "[I", true)
  | 4 => ("SleeveDarker$Wool", "size", "I", false)
  | 5 => ("SleeveDarker$Wool", "imageOunces", "[I", true)
  | 6 => ("SleeveDarker$Wool", "imageFaded", "[I", true)
  | _ => ("SleeveDarker$Wool", "imageSize", "I", false)
def tyX10 : Nat → FieldType := fun k => match k with
  | 0 => .array .int
  | 1 => .array .int
  | 2 => .array .int
  | 3 => .array .int
  | 4 => .int
  | 5 => .array .int
  | 6 => .array .int
  | _ => .int
abbrev wsX100 : List Cond := u_ws RX10 TX10 8
theorem nmX10 : ∀ a, a < 8 → ∀ b, b < 8 → a ≠ b → (TX10 a).2.1 ≠ (TX10 b).2.1 := by decide +kernel
theorem tyX10_ok : ∀ k, k < 8 → parseFieldDescriptor (TX10 k).2.2.1 = some (tyX10 k) := by decide +kernel
abbrev cX10_init : ByteArray := prog_12_method_1_code
def yX10_init : MethodName := ⟨RX10, "<init>", "()V"⟩
abbrev cX10_has : ByteArray := prog_12_method_2_code
def yX10_has : MethodName := ⟨RX10, "has", "(I)Z"⟩
abbrev cX10_addHank : ByteArray := prog_12_method_3_code
def yX10_addHank : MethodName := ⟨RX10, "addHank", "(III)I"⟩
abbrev cX10_fadedShade : ByteArray := prog_12_method_4_code
def yX10_fadedShade : MethodName := ⟨RX10, "fadedShade", "(I)I"⟩
abbrev cX10_ouncesInAll : ByteArray := prog_12_method_5_code
def yX10_ouncesInAll : MethodName := ⟨RX10, "ouncesInAll", "()I"⟩
abbrev cX10_hanksInBits : ByteArray := prog_12_method_6_code
def yX10_hanksInBits : MethodName := ⟨RX10, "hanksInBits", "()I"⟩
abbrev cX10_keepImage : ByteArray := prog_12_method_7_code
def yX10_keepImage : MethodName := ⟨RX10, "keepImage", "()V"⟩
abbrev cX10_layBack : ByteArray := prog_12_method_8_code
def yX10_layBack : MethodName := ⟨RX10, "layBack", "()V"⟩
def RX11 : String := "SleeveDarker"
def TX11 : u_T := fun k => match k with
  | 0 => ("SleeveDarker", "wool", "LSleeveDarker$Wool;", true)
  | 1 => ("SleeveDarker", "coats", "[LSleeveDarker$Coat;", true)
  | 2 => ("SleeveDarker", "coatCount", "I", false)
  | 3 => ("SleeveDarker", "reader", "LSleeveDarker$Reader;", true)
  | 4 => ("SleeveDarker", "texts", "[LSleeveDarker$Text;", true)
  | 5 => ("SleeveDarker", "textCount", "I", false)
  | 6 => ("SleeveDarker", "rule", "LSleeveDarker$Text;", false)
  | 7 => ("SleeveDarker", "ruleNumber", "I", false)
  | 8 => ("SleeveDarker", "cutter", "LSleeveDarker$Cutter;", true)
  | 9 => ("SleeveDarker", "planner", "LSleeveDarker$Planner;", true)
  | 10 => ("SleeveDarker", "imageKept", "Z", false)
  | 11 => ("SleeveDarker", "imageCoats", "I", false)
  | 12 => ("SleeveDarker", "imageRule", "I", false)
  | 13 => ("SleeveDarker", "sheets", "[[I", true)
  | 14 => ("SleeveDarker", "sheetSort", "[I", true)
  | _ => ("SleeveDarker", "sheetSize", "[I", true)
def tyX11 : Nat → FieldType := fun k => match k with
  | 0 => .object "SleeveDarker$Wool"
  | 1 => .array (.object "SleeveDarker$Coat")
  | 2 => .int
  | 3 => .object "SleeveDarker$Reader"
  | 4 => .array (.object "SleeveDarker$Text")
  | 5 => .int
  | 6 => .object "SleeveDarker$Text"
  | 7 => .int
  | 8 => .object "SleeveDarker$Cutter"
  | 9 => .object "SleeveDarker$Planner"
  | 10 => .boolean
  | 11 => .int
  | 12 => .int
  | 13 => .array (.array .int)
  | 14 => .array .int
  | _ => .array .int
abbrev wsX110 : List Cond := u_ws RX11 TX11 16
theorem nmX11 : ∀ a, a < 16 → ∀ b, b < 16 → a ≠ b → (TX11 a).2.1 ≠ (TX11 b).2.1 := by decide +kernel
theorem tyX11_ok : ∀ k, k < 16 → parseFieldDescriptor (TX11 k).2.2.1 = some (tyX11 k) := by decide +kernel
abbrev cX11_init : ByteArray := prog_1_method_1_code
def yX11_init : MethodName := ⟨RX11, "<init>", "()V"⟩
abbrev cX11_hank : ByteArray := prog_1_method_2_code
def yX11_hank : MethodName := ⟨RX11, "hank", "(III)I"⟩
abbrev cX11_ounces : ByteArray := prog_1_method_3_code
def yX11_ounces : MethodName := ⟨RX11, "ounces", "(II)I"⟩
abbrev cX11_fade : ByteArray := prog_1_method_4_code
def yX11_fade : MethodName := ⟨RX11, "fade", "(II)I"⟩
abbrev cX11_coat : ByteArray := prog_1_method_5_code
def yX11_coat : MethodName := ⟨RX11, "coat", "(III)I"⟩
abbrev cX11_told : ByteArray := prog_1_method_6_code
def yX11_told : MethodName := ⟨RX11, "told", "(II)I"⟩
abbrev cX11_hankTold : ByteArray := prog_1_method_7_code
def yX11_hankTold : MethodName := ⟨RX11, "hankTold", "(II)I"⟩
abbrev cX11_feed : ByteArray := prog_1_method_8_code
def yX11_feed : MethodName := ⟨RX11, "feed", "(IJ)I"⟩
abbrev cX11_text : ByteArray := prog_1_method_9_code
def yX11_text : MethodName := ⟨RX11, "text", "()I"⟩
abbrev cX11_force : ByteArray := prog_1_method_10_code
def yX11_force : MethodName := ⟨RX11, "force", "(I)I"⟩
abbrev cX11_seen : ByteArray := prog_1_method_11_code
def yX11_seen : MethodName := ⟨RX11, "seen", "(II)I"⟩
abbrev cX11_mayMeet : ByteArray := prog_1_method_12_code
def yX11_mayMeet : MethodName := ⟨RX11, "mayMeet", "(III)I"⟩
abbrev cX11_between : ByteArray := prog_1_method_13_code
def yX11_between : MethodName := ⟨RX11, "between", "(III)I"⟩
abbrev cX11_range : ByteArray := prog_1_method_14_code
def yX11_range : MethodName := ⟨RX11, "range", "(I)I"⟩
abbrev cX11_judge : ByteArray := prog_1_method_15_code
def yX11_judge : MethodName := ⟨RX11, "judge", "(II)I"⟩
abbrev cX11_can : ByteArray := prog_1_method_16_code
def yX11_can : MethodName := ⟨RX11, "can", "(II)I"⟩
abbrev cX11_knit : ByteArray := prog_1_method_17_code
def yX11_knit : MethodName := ⟨RX11, "knit", "(III)I"⟩
abbrev cX11_undo : ByteArray := prog_1_method_18_code
def yX11_undo : MethodName := ⟨RX11, "undo", "(I)I"⟩
abbrev cX11_most : ByteArray := prog_1_method_19_code
def yX11_most : MethodName := ⟨RX11, "most", "(I)I"⟩
abbrev cX11_more : ByteArray := prog_1_method_20_code
def yX11_more : MethodName := ⟨RX11, "more", "(I)I"⟩
abbrev cX11_late : ByteArray := prog_1_method_21_code
def yX11_late : MethodName := ⟨RX11, "late", "(I)I"⟩
abbrev cX11_image : ByteArray := prog_1_method_22_code
def yX11_image : MethodName := ⟨RX11, "image", "()I"⟩
abbrev cX11_back : ByteArray := prog_1_method_23_code
def yX11_back : MethodName := ⟨RX11, "back", "()I"⟩
abbrev cX11_count : ByteArray := prog_1_method_24_code
def yX11_count : MethodName := ⟨RX11, "count", "(I)I"⟩
abbrev cX11_sheet : ByteArray := prog_1_method_25_code
def yX11_sheet : MethodName := ⟨RX11, "sheet", "(III)I"⟩
abbrev cX11_cell : ByteArray := prog_1_method_26_code
def yX11_cell : MethodName := ⟨RX11, "cell", "(III)I"⟩
abbrev cX11_copy : ByteArray := prog_1_method_27_code
def yX11_copy : MethodName := ⟨RX11, "copy", "(IIIII)I"⟩
abbrev cX11_hanks : ByteArray := prog_1_method_28_code
def yX11_hanks : MethodName := ⟨RX11, "hanks", "(IIII)I"⟩
abbrev cX11_taken : ByteArray := prog_1_method_29_code
def yX11_taken : MethodName := ⟨RX11, "taken", "(II)I"⟩
abbrev cX11_isWithin : ByteArray := prog_1_method_30_code
def yX11_isWithin : MethodName := ⟨RX11, "isWithin", "(III)Z"⟩
abbrev cX11_hasBit : ByteArray := prog_1_method_31_code
def yX11_hasBit : MethodName := ⟨RX11, "hasBit", "(II)Z"⟩
abbrev cX11_clamp : ByteArray := prog_1_method_32_code
def yX11_clamp : MethodName := ⟨RX11, "clamp", "(II)I"⟩
abbrev cX11_hankOf : ByteArray := prog_1_method_33_code
def yX11_hankOf : MethodName := ⟨RX11, "hankOf", "(II)I"⟩
abbrev cX11_newCoat : ByteArray := prog_1_method_34_code
def yX11_newCoat : MethodName := ⟨RX11, "newCoat", "(III)LSleeveDarker$Coat;"⟩
abbrev cX11_isOfKind : ByteArray := prog_1_method_35_code
def yX11_isOfKind : MethodName := ⟨RX11, "isOfKind", "(LSleeveDarker$Coat;I)Z"⟩
abbrev cX11_coatAt : ByteArray := prog_1_method_36_code
def yX11_coatAt : MethodName := ⟨RX11, "coatAt", "(I)LSleeveDarker$Coat;"⟩
abbrev cX11_useRule : ByteArray := prog_1_method_37_code
def yX11_useRule : MethodName := ⟨RX11, "useRule", "(I)V"⟩
abbrev cX11_lastDay : ByteArray := prog_1_method_38_code
def yX11_lastDay : MethodName := ⟨RX11, "lastDay", "()I"⟩
abbrev cX11_doneCount : ByteArray := prog_1_method_39_code
def yX11_doneCount : MethodName := ⟨RX11, "doneCount", "()I"⟩
abbrev cX11_keptByInAll : ByteArray := prog_1_method_40_code
def yX11_keptByInAll : MethodName := ⟨RX11, "keptByInAll", "()I"⟩
abbrev cX11_isSheet : ByteArray := prog_1_method_41_code
def yX11_isSheet : MethodName := ⟨RX11, "isSheet", "(I)Z"⟩
abbrev cX11_hasRun : ByteArray := prog_1_method_42_code
def yX11_hasRun : MethodName := ⟨RX11, "hasRun", "(III)Z"⟩
abbrev cX11_cutToSort : ByteArray := prog_1_method_43_code
def yX11_cutToSort : MethodName := ⟨RX11, "cutToSort", "(II)I"⟩
def RX12 : String := "SleeveDarkerModel"
def TX12 : u_T := fun k => match k with
  | 0 => ("SleeveDarkerModel", "code", "I", false)
  | 1 => ("SleeveDarkerModel", "hanks", "I", false)
  | 2 => ("SleeveDarkerModel", "ounces", "[I", true)
  | 3 => ("SleeveDarkerModel", "shade", "[I", true)
  | 4 => ("SleeveDarkerModel", "vat", "[I", true)
  | 5 => ("SleeveDarkerModel", "faded", "[I", true)
  | 6 => ("SleeveDarkerModel", "coats", "I", false)
  | 7 => ("SleeveDarkerModel", "kind", "[I", true)
  | 8 => ("SleeveDarkerModel", "wide", "[I", true)
  | 9 => ("SleeveDarkerModel", "number", "[I", true)
  | 10 => ("SleeveDarkerModel", "value", "[I", true)
  | 11 => ("SleeveDarkerModel", "isDone", "[Z", true)
  | 12 => ("SleeveDarkerModel", "doneBy", "[I", true)
  | 13 => ("SleeveDarkerModel", "doneOn", "[I", true)
  | 14 => ("SleeveDarkerModel", "tape", "[B", true)
  | 15 => ("SleeveDarkerModel", "taped", "I", false)
  | 16 => ("SleeveDarkerModel", "texts", "I", false)
  | 17 => ("SleeveDarkerModel", "inForce", "I", false)
  | 18 => ("SleeveDarkerModel", "act", "[I", true)
  | 19 => ("SleeveDarkerModel", "with", "[I", true)
  | 20 => ("SleeveDarkerModel", "endOf", "[I", true)
  | 21 => ("SleeveDarkerModel", "laid", "I", false)
  | 22 => ("SleeveDarkerModel", "fault", "I", false)
  | 23 => ("SleeveDarkerModel", "open", "I", false)
  | 24 => ("SleeveDarkerModel", "from", "I", false)
  | 25 => ("SleeveDarkerModel", "to", "I", false)
  | 26 => ("SleeveDarkerModel", "sortNow", "I", false)
  | 27 => ("SleeveDarkerModel", "isNow", "I", false)
  | 28 => ("SleeveDarkerModel", "pile", "[I", true)
  | 29 => ("SleeveDarkerModel", "facts", "[I", true)
  | 30 => ("SleeveDarkerModel", "digit", "[I", true)
  | 31 => ("SleeveDarkerModel", "given", "[I", true)
  | 32 => ("SleeveDarkerModel", "bestParting", "I", false)
  | 33 => ("SleeveDarkerModel", "bestBits", "I", false)
  | 34 => ("SleeveDarkerModel", "canMany", "I", false)
  | 35 => ("SleeveDarkerModel", "mayTwo", "[Z", true)
  | 36 => ("SleeveDarkerModel", "mostSum", "I", false)
  | 37 => ("SleeveDarkerModel", "mostOrder", "I", false)
  | 38 => ("SleeveDarkerModel", "mostCoats", "I", false)
  | 39 => ("SleeveDarkerModel", "hasImage", "Z", false)
  | 40 => ("SleeveDarkerModel", "keptHanks", "I", false)
  | 41 => ("SleeveDarkerModel", "keptCoats", "I", false)
  | 42 => ("SleeveDarkerModel", "keptRule", "I", false)
  | 43 => ("SleeveDarkerModel", "keptOunces", "[I", true)
  | 44 => ("SleeveDarkerModel", "keptFaded", "[I", true)
  | 45 => ("SleeveDarkerModel", "keptDone", "[Z", true)
  | 46 => ("SleeveDarkerModel", "keptBy", "[I", true)
  | 47 => ("SleeveDarkerModel", "keptOn", "[I", true)
  | 48 => ("SleeveDarkerModel", "sheetSort", "[I", true)
  | 49 => ("SleeveDarkerModel", "sheetSize", "[I", true)
  | 50 => ("SleeveDarkerModel", "items", "[I", true)
  | _ => ("SleeveDarkerModel", "moving", "[I", true)
def tyX12 : Nat → FieldType := fun k => match k with
  | 0 => .int
  | 1 => .int
  | 2 => .array .int
  | 3 => .array .int
  | 4 => .array .int
  | 5 => .array .int
  | 6 => .int
  | 7 => .array .int
  | 8 => .array .int
  | 9 => .array .int
  | 10 => .array .int
  | 11 => .array .boolean
  | 12 => .array .int
  | 13 => .array .int
  | 14 => .array .byte
  | 15 => .int
  | 16 => .int
  | 17 => .int
  | 18 => .array .int
  | 19 => .array .int
  | 20 => .array .int
  | 21 => .int
  | 22 => .int
  | 23 => .int
  | 24 => .int
  | 25 => .int
  | 26 => .int
  | 27 => .int
  | 28 => .array .int
  | 29 => .array .int
  | 30 => .array .int
  | 31 => .array .int
  | 32 => .int
  | 33 => .int
  | 34 => .int
  | 35 => .array .boolean
  | 36 => .int
  | 37 => .int
  | 38 => .int
  | 39 => .boolean
  | 40 => .int
  | 41 => .int
  | 42 => .int
  | 43 => .array .int
  | 44 => .array .int
  | 45 => .array .boolean
  | 46 => .array .int
  | 47 => .array .int
  | 48 => .array .int
  | 49 => .array .int
  | 50 => .array .int
  | _ => .array .int
abbrev wsX120 : List Cond := u_ws RX12 TX12 52
theorem nmX12 : ∀ a, a < 52 → ∀ b, b < 52 → a ≠ b → (TX12 a).2.1 ≠ (TX12 b).2.1 := by decide +kernel
theorem tyX12_ok : ∀ k, k < 52 → parseFieldDescriptor (TX12 k).2.2.1 = some (tyX12 k) := by decide +kernel
abbrev cX12_init : ByteArray := prog_14_method_1_code
def yX12_init : MethodName := ⟨RX12, "<init>", "()V"⟩
abbrev cX12_in : ByteArray := prog_14_method_3_code
def yX12_in : MethodName := ⟨RX12, "in", "(III)Z"⟩
abbrev cX12_held : ByteArray := prog_14_method_4_code
def yX12_held : MethodName := ⟨RX12, "held", "(II)I"⟩
abbrev cX12_isHank : ByteArray := prog_14_method_5_code
def yX12_isHank : MethodName := ⟨RX12, "isHank", "(I)Z"⟩
abbrev cX12_isCoat : ByteArray := prog_14_method_6_code
def yX12_isCoat : MethodName := ⟨RX12, "isCoat", "(I)Z"⟩
abbrev cX12_hank : ByteArray := prog_14_method_7_code
def yX12_hank : MethodName := ⟨RX12, "hank", "(III)I"⟩
abbrev cX12_ounces : ByteArray := prog_14_method_8_code
def yX12_ounces : MethodName := ⟨RX12, "ounces", "(II)I"⟩
abbrev cX12_fade : ByteArray := prog_14_method_9_code
def yX12_fade : MethodName := ⟨RX12, "fade", "(II)I"⟩
abbrev cX12_coat : ByteArray := prog_14_method_10_code
def yX12_coat : MethodName := ⟨RX12, "coat", "(III)I"⟩
abbrev cX12_shadeOf : ByteArray := prog_14_method_11_code
def yX12_shadeOf : MethodName := ⟨RX12, "shadeOf", "(I)I"⟩
abbrev cX12_takes : ByteArray := prog_14_method_12_code
def yX12_takes : MethodName := ⟨RX12, "takes", "(II)I"⟩
abbrev cX12_takesAll : ByteArray := prog_14_method_13_code
def yX12_takesAll : MethodName := ⟨RX12, "takesAll", "(I)I"⟩
abbrev cX12_bears : ByteArray := prog_14_method_14_code
def yX12_bears : MethodName := ⟨RX12, "bears", "(II)I"⟩
abbrev cX12_brings : ByteArray := prog_14_method_15_code
def yX12_brings : MethodName := ⟨RX12, "brings", "(I)I"⟩
abbrev cX12_oneOf : ByteArray := prog_14_method_16_code
def yX12_oneOf : MethodName := ⟨RX12, "oneOf", "(I)I"⟩
abbrev cX12_otherOf : ByteArray := prog_14_method_17_code
def yX12_otherOf : MethodName := ⟨RX12, "otherOf", "(I)I"⟩
abbrev cX12_told : ByteArray := prog_14_method_18_code
def yX12_told : MethodName := ⟨RX12, "told", "(II)I"⟩
abbrev cX12_hankTold : ByteArray := prog_14_method_19_code
def yX12_hankTold : MethodName := ⟨RX12, "hankTold", "(II)I"⟩
abbrev cX12_feed : ByteArray := prog_14_method_20_code
def yX12_feed : MethodName := ⟨RX12, "feed", "(IJ)I"⟩
abbrev cX12_isLetter : ByteArray := prog_14_method_21_code
def yX12_isLetter : MethodName := ⟨RX12, "isLetter", "(I)Z"⟩
abbrev cX12_isDigit : ByteArray := prog_14_method_22_code
def yX12_isDigit : MethodName := ⟨RX12, "isDigit", "(I)Z"⟩
abbrev cX12_isWord : ByteArray := prog_14_method_23_code
def yX12_isWord : MethodName := ⟨RX12, "isWord", "(IIIIIII)Z"⟩
abbrev cX12_wordNow : ByteArray := prog_14_method_24_code
def yX12_wordNow : MethodName := ⟨RX12, "wordNow", "()I"⟩
abbrev cX12_next : ByteArray := prog_14_method_25_code
def yX12_next : MethodName := ⟨RX12, "next", "()V"⟩
abbrev cX12_wrong : ByteArray := prog_14_method_26_code
def yX12_wrong : MethodName := ⟨RX12, "wrong", "()V"⟩
abbrev cX12_isSign : ByteArray := prog_14_method_27_code
def yX12_isSign : MethodName := ⟨RX12, "isSign", "(I)Z"⟩
abbrev cX12_isKey : ByteArray := prog_14_method_28_code
def yX12_isKey : MethodName := ⟨RX12, "isKey", "(I)Z"⟩
abbrev cX12_addStep : ByteArray := prog_14_method_29_code
def yX12_addStep : MethodName := ⟨RX12, "addStep", "(II)V"⟩
abbrev cX12_opens : ByteArray := prog_14_method_30_code
def yX12_opens : MethodName := ⟨RX12, "opens", "()Z"⟩
abbrev cX12_either : ByteArray := prog_14_method_31_code
def yX12_either : MethodName := ⟨RX12, "either", "()V"⟩
abbrev cX12_all : ByteArray := prog_14_method_32_code
def yX12_all : MethodName := ⟨RX12, "all", "()V"⟩
abbrev cX12_denied : ByteArray := prog_14_method_33_code
def yX12_denied : MethodName := ⟨RX12, "denied", "()V"⟩
abbrev cX12_sum : ByteArray := prog_14_method_34_code
def yX12_sum : MethodName := ⟨RX12, "sum", "()V"⟩
abbrev cX12_term : ByteArray := prog_14_method_35_code
def yX12_term : MethodName := ⟨RX12, "term", "()V"⟩
abbrev cX12_one : ByteArray := prog_14_method_36_code
def yX12_one : MethodName := ⟨RX12, "one", "()V"⟩
abbrev cX12_rule : ByteArray := prog_14_method_37_code
def yX12_rule : MethodName := ⟨RX12, "rule", "(I)V"⟩
abbrev cX12_text : ByteArray := prog_14_method_38_code
def yX12_text : MethodName := ⟨RX12, "text", "()I"⟩
abbrev cX12_force : ByteArray := prog_14_method_39_code
def yX12_force : MethodName := ⟨RX12, "force", "(I)I"⟩
abbrev cX12_twoOf : ByteArray := prog_14_method_40_code
def yX12_twoOf : MethodName := ⟨RX12, "twoOf", "(III)I"⟩
abbrev cX12_gives : ByteArray := prog_14_method_41_code
def yX12_gives : MethodName := ⟨RX12, "gives", "(I)I"⟩
abbrev cX12_findFacts : ByteArray := prog_14_method_42_code
def yX12_findFacts : MethodName := ⟨RX12, "findFacts", "(IIIIII)V"⟩
abbrev cX12_bear : ByteArray := prog_14_method_43_code
def yX12_bear : MethodName := ⟨RX12, "bear", "(II)I"⟩
abbrev cX12_keep : ByteArray := prog_14_method_44_code
def yX12_keep : MethodName := ⟨RX12, "keep", "(I)I"⟩
abbrev cX12_seenOf : ByteArray := prog_14_method_45_code
def yX12_seenOf : MethodName := ⟨RX12, "seenOf", "(II)I"⟩
abbrev cX12_seen : ByteArray := prog_14_method_46_code
def yX12_seen : MethodName := ⟨RX12, "seen", "(II)I"⟩
abbrev cX12_doMeet : ByteArray := prog_14_method_47_code
def yX12_doMeet : MethodName := ⟨RX12, "doMeet", "(IIII)Z"⟩
abbrev cX12_mayMeet : ByteArray := prog_14_method_48_code
def yX12_mayMeet : MethodName := ⟨RX12, "mayMeet", "(III)I"⟩
abbrev cX12_between : ByteArray := prog_14_method_49_code
def yX12_between : MethodName := ⟨RX12, "between", "(III)I"⟩
abbrev cX12_range : ByteArray := prog_14_method_50_code
def yX12_range : MethodName := ⟨RX12, "range", "(I)I"⟩
abbrev cX12_findDigits : ByteArray := prog_14_method_51_code
def yX12_findDigits : MethodName := ⟨RX12, "findDigits", "(I)V"⟩
abbrev cX12_judged : ByteArray := prog_14_method_52_code
def yX12_judged : MethodName := ⟨RX12, "judged", "(II)I"⟩
abbrev cX12_judge : ByteArray := prog_14_method_53_code
def yX12_judge : MethodName := ⟨RX12, "judge", "(II)I"⟩
abbrev cX12_findMay : ByteArray := prog_14_method_54_code
def yX12_findMay : MethodName := ⟨RX12, "findMay", "(I)V"⟩
abbrev cX12_isGood : ByteArray := prog_14_method_55_code
def yX12_isGood : MethodName := ⟨RX12, "isGood", "(II)Z"⟩
abbrev cX12_findCan : ByteArray := prog_14_method_56_code
def yX12_findCan : MethodName := ⟨RX12, "findCan", "(I)V"⟩
abbrev cX12_can : ByteArray := prog_14_method_57_code
def yX12_can : MethodName := ⟨RX12, "can", "(II)I"⟩
abbrev cX12_take : ByteArray := prog_14_method_58_code
def yX12_take : MethodName := ⟨RX12, "take", "(III)V"⟩
abbrev cX12_lastDay : ByteArray := prog_14_method_59_code
def yX12_lastDay : MethodName := ⟨RX12, "lastDay", "()I"⟩
abbrev cX12_knit : ByteArray := prog_14_method_60_code
def yX12_knit : MethodName := ⟨RX12, "knit", "(III)I"⟩
abbrev cX12_undo : ByteArray := prog_14_method_61_code
def yX12_undo : MethodName := ⟨RX12, "undo", "(I)I"⟩
abbrev cX12_goOn : ByteArray := prog_14_method_62_code
def yX12_goOn : MethodName := ⟨RX12, "goOn", "(IIII)V"⟩
abbrev cX12_findMost : ByteArray := prog_14_method_63_code
def yX12_findMost : MethodName := ⟨RX12, "findMost", "()V"⟩
abbrev cX12_allOunces : ByteArray := prog_14_method_64_code
def yX12_allOunces : MethodName := ⟨RX12, "allOunces", "()I"⟩
abbrev cX12_most : ByteArray := prog_14_method_65_code
def yX12_most : MethodName := ⟨RX12, "most", "(I)I"⟩
abbrev cX12_more : ByteArray := prog_14_method_66_code
def yX12_more : MethodName := ⟨RX12, "more", "(I)I"⟩
abbrev cX12_late : ByteArray := prog_14_method_67_code
def yX12_late : MethodName := ⟨RX12, "late", "(I)I"⟩
abbrev cX12_doneMany : ByteArray := prog_14_method_68_code
def yX12_doneMany : MethodName := ⟨RX12, "doneMany", "()I"⟩
abbrev cX12_image : ByteArray := prog_14_method_69_code
def yX12_image : MethodName := ⟨RX12, "image", "()I"⟩
abbrev cX12_back : ByteArray := prog_14_method_70_code
def yX12_back : MethodName := ⟨RX12, "back", "()I"⟩
abbrev cX12_count : ByteArray := prog_14_method_71_code
def yX12_count : MethodName := ⟨RX12, "count", "(I)I"⟩
abbrev cX12_isSheet : ByteArray := prog_14_method_72_code
def yX12_isSheet : MethodName := ⟨RX12, "isSheet", "(I)Z"⟩
abbrev cX12_sheet : ByteArray := prog_14_method_73_code
def yX12_sheet : MethodName := ⟨RX12, "sheet", "(III)I"⟩
abbrev cX12_cell : ByteArray := prog_14_method_74_code
def yX12_cell : MethodName := ⟨RX12, "cell", "(III)I"⟩
abbrev cX12_copy : ByteArray := prog_14_method_75_code
def yX12_copy : MethodName := ⟨RX12, "copy", "(IIIII)I"⟩
abbrev cX12_hanks : ByteArray := prog_14_method_76_code
def yX12_hanks : MethodName := ⟨RX12, "hanks", "(IIII)I"⟩
abbrev cX12_isUnder : ByteArray := prog_14_method_77_code
def yX12_isUnder : MethodName := ⟨RX12, "isUnder", "(II)Z"⟩
abbrev cX12_taken : ByteArray := prog_14_method_78_code
def yX12_taken : MethodName := ⟨RX12, "taken", "(II)I"⟩
def RJx145de : String := "java/io/Serializable"
def TJx145de : u_T := fun k => match k with
  | _ => ("", "", "", false)
def tyJx145de : Nat → FieldType := fun k => match k with
  | _ => .int
abbrev wsJx145de0 : List Cond := u_ws RJx145de TJx145de 0
theorem nmJx145de : ∀ a, a < 0 → ∀ b, b < 0 → a ≠ b → (TJx145de a).2.1 ≠ (TJx145de b).2.1 := by decide +kernel
theorem tyJx145de_ok : ∀ k, k < 0 → parseFieldDescriptor (TJx145de k).2.2.1 = some (tyJx145de k) := by decide +kernel
def RJx9f9b0 : String := "java/lang/CharSequence"
def TJx9f9b0 : u_T := fun k => match k with
  | _ => ("", "", "", false)
def tyJx9f9b0 : Nat → FieldType := fun k => match k with
  | _ => .int
abbrev wsJx9f9b00 : List Cond := u_ws RJx9f9b0 TJx9f9b0 0
theorem nmJx9f9b0 : ∀ a, a < 0 → ∀ b, b < 0 → a ≠ b → (TJx9f9b0 a).2.1 ≠ (TJx9f9b0 b).2.1 := by decide +kernel
theorem tyJx9f9b0_ok : ∀ k, k < 0 → parseFieldDescriptor (TJx9f9b0 k).2.2.1 = some (tyJx9f9b0 k) := by decide +kernel
def RJ11 : String := "java/lang/Character"
def TJ11 : u_T := fun k => match k with
  | _ => ("", "", "", false)
def tyJ11 : Nat → FieldType := fun k => match k with
  | _ => .int
abbrev wsJ110 : List Cond := u_ws RJ11 TJ11 0
theorem nmJ11 : ∀ a, a < 0 → ∀ b, b < 0 → a ≠ b → (TJ11 a).2.1 ≠ (TJ11 b).2.1 := by decide +kernel
theorem tyJ11_ok : ∀ k, k < 0 → parseFieldDescriptor (TJ11 k).2.2.1 = some (tyJ11 k) := by decide +kernel
abbrev cJ11_isValidCodePoint_9a6ad : ByteArray := prog_15_method_11_code
def yJ11_isValidCodePoint_9a6ad : MethodName := ⟨RJ11, "isValidCodePoint", "(I)Z"⟩
abbrev cJ11_highSurrogate_5068e : ByteArray := prog_15_method_28_code
def yJ11_highSurrogate_5068e : MethodName := ⟨RJ11, "highSurrogate", "(I)C"⟩
abbrev cJ11_lowSurrogate_5068e : ByteArray := prog_15_method_29_code
def yJ11_lowSurrogate_5068e : MethodName := ⟨RJ11, "lowSurrogate", "(I)C"⟩
def RJx8e188 : String := "java/lang/Cloneable"
def TJx8e188 : u_T := fun k => match k with
  | _ => ("", "", "", false)
def tyJx8e188 : Nat → FieldType := fun k => match k with
  | _ => .int
abbrev wsJx8e1880 : List Cond := u_ws RJx8e188 TJx8e188 0
theorem nmJx8e188 : ∀ a, a < 0 → ∀ b, b < 0 → a ≠ b → (TJx8e188 a).2.1 ≠ (TJx8e188 b).2.1 := by decide +kernel
theorem tyJx8e188_ok : ∀ k, k < 0 → parseFieldDescriptor (TJx8e188 k).2.2.1 = some (tyJx8e188 k) := by decide +kernel
def RJxb160c : String := "java/lang/Comparable"
def TJxb160c : u_T := fun k => match k with
  | _ => ("", "", "", false)
def tyJxb160c : Nat → FieldType := fun k => match k with
  | _ => .int
abbrev wsJxb160c0 : List Cond := u_ws RJxb160c TJxb160c 0
theorem nmJxb160c : ∀ a, a < 0 → ∀ b, b < 0 → a ≠ b → (TJxb160c a).2.1 ≠ (TJxb160c b).2.1 := by decide +kernel
theorem tyJxb160c_ok : ∀ k, k < 0 → parseFieldDescriptor (TJxb160c k).2.2.1 = some (tyJxb160c k) := by decide +kernel
def RJ9 : String := "java/lang/Math"
def TJ9 : u_T := fun k => match k with
  | _ => ("", "", "", false)
def tyJ9 : Nat → FieldType := fun k => match k with
  | _ => .int
abbrev wsJ90 : List Cond := u_ws RJ9 TJ9 0
theorem nmJ9 : ∀ a, a < 0 → ∀ b, b < 0 → a ≠ b → (TJ9 a).2.1 ≠ (TJ9 b).2.1 := by decide +kernel
theorem tyJ9_ok : ∀ k, k < 0 → parseFieldDescriptor (TJ9 k).2.2.1 = some (tyJ9 k) := by decide +kernel
abbrev cJ9_abs_0f7a4 : ByteArray := prog_17_method_59_code
def yJ9_abs_0f7a4 : MethodName := ⟨RJ9, "abs", "(I)I"⟩
abbrev cJ9_max_7cf53 : ByteArray := prog_17_method_65_code
def yJ9_max_7cf53 : MethodName := ⟨RJ9, "max", "(II)I"⟩
abbrev cJ9_min_7cf53 : ByteArray := prog_17_method_69_code
def yJ9_min_7cf53 : MethodName := ⟨RJ9, "min", "(II)I"⟩
def RJ0 : String := "java/lang/String"
def TJ0 : u_T := fun k => match k with
  | _ => ("", "", "", false)
def tyJ0 : Nat → FieldType := fun k => match k with
  | _ => .int
abbrev wsJ00 : List Cond := u_ws RJ0 TJ0 0
theorem nmJ0 : ∀ a, a < 0 → ∀ b, b < 0 → a ≠ b → (TJ0 a).2.1 ≠ (TJ0 b).2.1 := by decide +kernel
theorem tyJ0_ok : ∀ k, k < 0 → parseFieldDescriptor (TJ0 k).2.2.1 = some (tyJ0 k) := by decide +kernel
abbrev cJ0_length_8abf5 : ByteArray := prog_18_method_54_code
def yJ0_length_8abf5 : MethodName := ⟨RJ0, "length", "()I"⟩
abbrev cJ0_charAt_5068e : ByteArray := prog_18_method_56_code
def yJ0_charAt_5068e : MethodName := ⟨RJ0, "charAt", "(I)C"⟩
abbrev cJ0_indexOf_0f7a4 : ByteArray := prog_18_method_79_code
def yJ0_indexOf_0f7a4 : MethodName := ⟨RJ0, "indexOf", "(I)I"⟩
abbrev cJ0_indexOf_7cf53 : ByteArray := prog_18_method_80_code
def yJ0_indexOf_7cf53 : MethodName := ⟨RJ0, "indexOf", "(II)I"⟩
abbrev cJ0_coder_7d493 : ByteArray := prog_18_method_152_code
def yJ0_coder_7d493 : MethodName := ⟨RJ0, "coder", "()B"⟩
abbrev cJ0_isLatin1_aae02 : ByteArray := prog_18_method_154_code
def yJ0_isLatin1_aae02 : MethodName := ⟨RJ0, "isLatin1", "()Z"⟩
abbrev cJ0_checkIndex_df160 : ByteArray := prog_18_method_155_code
def yJ0_checkIndex_df160 : MethodName := ⟨RJ0, "checkIndex", "(II)V"⟩
abbrev cJ0_checkBoundsBeginEnd_23922 : ByteArray := prog_18_method_158_code
def yJ0_checkBoundsBeginEnd_23922 : MethodName := ⟨RJ0, "checkBoundsBeginEnd", "(III)V"⟩
def RJ1 : String := "java/lang/StringLatin1"
def TJ1 : u_T := fun k => match k with
  | _ => ("", "", "", false)
def tyJ1 : Nat → FieldType := fun k => match k with
  | _ => .int
abbrev wsJ10 : List Cond := u_ws RJ1 TJ1 0
theorem nmJ1 : ∀ a, a < 0 → ∀ b, b < 0 → a ≠ b → (TJ1 a).2.1 ≠ (TJ1 b).2.1 := by decide +kernel
theorem tyJ1_ok : ∀ k, k < 0 → parseFieldDescriptor (TJ1 k).2.2.1 = some (tyJ1 k) := by decide +kernel
abbrev cJ1_charAt_3b067 : ByteArray := prog_19_method_2_code
def yJ1_charAt_3b067 : MethodName := ⟨RJ1, "charAt", "([BI)C"⟩
abbrev cJ1_canEncode_9a6ad : ByteArray := prog_19_method_4_code
def yJ1_canEncode_9a6ad : MethodName := ⟨RJ1, "canEncode", "(I)Z"⟩
abbrev cJ1_indexOf_4cfef : ByteArray := prog_19_method_22_code
def yJ1_indexOf_4cfef : MethodName := ⟨RJ1, "indexOf", "([BIII)I"⟩
abbrev cJ1_indexOfChar_4cfef : ByteArray := prog_19_method_23_code
def yJ1_indexOfChar_4cfef : MethodName := ⟨RJ1, "indexOfChar", "([BIII)I"⟩
def RJ2 : String := "java/lang/StringUTF16"
def TJ2 : u_T := fun k => match k with
  | _ => ("", "", "", false)
def tyJ2 : Nat → FieldType := fun k => match k with
  | _ => .int
abbrev wsJ20 : List Cond := u_ws RJ2 TJ2 0
theorem nmJ2 : ∀ a, a < 0 → ∀ b, b < 0 → a ≠ b → (TJ2 a).2.1 ≠ (TJ2 b).2.1 := by decide +kernel
theorem tyJ2_ok : ∀ k, k < 0 → parseFieldDescriptor (TJ2 k).2.2.1 = some (tyJ2 k) := by decide +kernel
abbrev cJ2_getChar_3b067 : ByteArray := prog_20_method_5_code
def yJ2_getChar_3b067 : MethodName := ⟨RJ2, "getChar", "([BI)C"⟩
abbrev cJ2_length_9d52b : ByteArray := prog_20_method_6_code
def yJ2_length_9d52b : MethodName := ⟨RJ2, "length", "([B)I"⟩
abbrev cJ2_indexOf_4cfef : ByteArray := prog_20_method_40_code
def yJ2_indexOf_4cfef : MethodName := ⟨RJ2, "indexOf", "([BIII)I"⟩
abbrev cJ2_indexOfChar_4cfef : ByteArray := prog_20_method_47_code
def yJ2_indexOfChar_4cfef : MethodName := ⟨RJ2, "indexOfChar", "([BIII)I"⟩
abbrev cJ2_indexOfCharUnsafe_4cfef : ByteArray := prog_20_method_48_code
def yJ2_indexOfCharUnsafe_4cfef : MethodName := ⟨RJ2, "indexOfCharUnsafe", "([BIII)I"⟩
abbrev cJ2_indexOfSupplementary_4cfef : ByteArray := prog_20_method_49_code
def yJ2_indexOfSupplementary_4cfef : MethodName := ⟨RJ2, "indexOfSupplementary", "([BIII)I"⟩
abbrev cJ2_charAt_3b067 : ByteArray := prog_20_method_83_code
def yJ2_charAt_3b067 : MethodName := ⟨RJ2, "charAt", "([BI)C"⟩
abbrev cJ2_checkIndex_2214a : ByteArray := prog_20_method_91_code
def yJ2_checkIndex_2214a : MethodName := ⟨RJ2, "checkIndex", "(I[B)V"⟩
abbrev cJ2_checkBoundsBeginEnd_d044e : ByteArray := prog_20_method_93_code
def yJ2_checkBoundsBeginEnd_d044e : MethodName := ⟨RJ2, "checkBoundsBeginEnd", "(II[B)V"⟩
def RJ10 : String := "java/lang/System"
def TJ10 : u_T := fun k => match k with
  | _ => ("", "", "", false)
def tyJ10 : Nat → FieldType := fun k => match k with
  | _ => .int
abbrev wsJ100 : List Cond := u_ws RJ10 TJ10 0
theorem nmJ10 : ∀ a, a < 0 → ∀ b, b < 0 → a ≠ b → (TJ10 a).2.1 ≠ (TJ10 b).2.1 := by decide +kernel
theorem tyJ10_ok : ∀ k, k < 0 → parseFieldDescriptor (TJ10 k).2.2.1 = some (tyJ10 k) := by decide +kernel
def RJxfd54e : String := "java/lang/constant/Constable"
def TJxfd54e : u_T := fun k => match k with
  | _ => ("", "", "", false)
def tyJxfd54e : Nat → FieldType := fun k => match k with
  | _ => .int
abbrev wsJxfd54e0 : List Cond := u_ws RJxfd54e TJxfd54e 0
theorem nmJxfd54e : ∀ a, a < 0 → ∀ b, b < 0 → a ≠ b → (TJxfd54e a).2.1 ≠ (TJxfd54e b).2.1 := by decide +kernel
theorem tyJxfd54e_ok : ∀ k, k < 0 → parseFieldDescriptor (TJxfd54e k).2.2.1 = some (tyJxfd54e k) := by decide +kernel
def RJx3cf43 : String := "java/lang/constant/ConstantDesc"
def TJx3cf43 : u_T := fun k => match k with
  | _ => ("", "", "", false)
def tyJx3cf43 : Nat → FieldType := fun k => match k with
  | _ => .int
abbrev wsJx3cf430 : List Cond := u_ws RJx3cf43 TJx3cf43 0
theorem nmJx3cf43 : ∀ a, a < 0 → ∀ b, b < 0 → a ≠ b → (TJx3cf43 a).2.1 ≠ (TJx3cf43 b).2.1 := by decide +kernel
theorem tyJx3cf43_ok : ∀ k, k < 0 → parseFieldDescriptor (TJx3cf43 k).2.2.1 = some (tyJx3cf43 k) := by decide +kernel
def RJ7 : String := "java/util/Arrays"
def TJ7 : u_T := fun k => match k with
  | _ => ("", "", "", false)
def tyJ7 : Nat → FieldType := fun k => match k with
  | _ => .int
abbrev wsJ70 : List Cond := u_ws RJ7 TJ7 0
theorem nmJ7 : ∀ a, a < 0 → ∀ b, b < 0 → a ≠ b → (TJ7 a).2.1 ≠ (TJ7 b).2.1 := by decide +kernel
theorem tyJ7_ok : ∀ k, k < 0 → parseFieldDescriptor (TJ7 k).2.2.1 = some (tyJ7 k) := by decide +kernel
abbrev cJ7_fill_53178 : ByteArray := prog_22_method_103_code
def yJ7_fill_53178 : MethodName := ⟨RJ7, "fill", "([II)V"⟩
abbrev cJ7_copyOf_59c91 : ByteArray := prog_22_method_123_code
def yJ7_copyOf_59c91 : MethodName := ⟨RJ7, "copyOf", "([II)[I"⟩
def RJ3 : String := "jdk/internal/util/Preconditions"
def TJ3 : u_T := fun k => match k with
  | _ => ("", "", "", false)
def tyJ3 : Nat → FieldType := fun k => match k with
  | _ => .int
abbrev wsJ30 : List Cond := u_ws RJ3 TJ3 0
theorem nmJ3 : ∀ a, a < 0 → ∀ b, b < 0 → a ≠ b → (TJ3 a).2.1 ≠ (TJ3 b).2.1 := by decide +kernel
theorem tyJ3_ok : ∀ k, k < 0 → parseFieldDescriptor (TJ3 k).2.2.1 = some (tyJ3 k) := by decide +kernel
abbrev cJ3_checkIndex_8e157 : ByteArray := prog_23_method_11_code
def yJ3_checkIndex_8e157 : MethodName := ⟨RJ3, "checkIndex", "(IILjava/util/function/BiFunction;)I"⟩
abbrev cJ3_checkFromToIndex_8c36e : ByteArray := prog_23_method_12_code
def yJ3_checkFromToIndex_8c36e : MethodName := ⟨RJ3, "checkFromToIndex", "(IIILjava/util/function/BiFunction;)I"⟩
def RL : String := "SleeveDarkerLaw"
abbrev cL_law : ByteArray := code
def yL_law : MethodName := ⟨RL, "law", "([I)Z"⟩
abbrev vwCl : List vw_C := [(RX0, TX0, 10), (RX1, TX1, 10), (RX2, TX2, 10), (RX3, TX3, 12), (RX4, TX4, 10), (RX5, TX5, 6), (RX6, TX6, 10), (RX7, TX7, 10), (RX8, TX8, 10), (RX9, TX9, 4), (RX10, TX10, 8), (RX11, TX11, 16), (RX12, TX12, 52)]
