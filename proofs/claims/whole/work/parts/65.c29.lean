/-! THE CLASS: a text that comes -/
abbrev nwk (k : Nat) : Prop := k = 28 ∨ k = 29 ∨ k = 30 ∨ k = 31 ∨ k = 32
def nwa (a c e n s k : Nat) : Nat := if k = 28 then a else if k = 29 then c else if k = 30 then e else if k = 31 then n else s
def Qx (Q : Qt) (a c e n s : Nat) : Qt := (fun k i => if i = Q.2.2 ∧ nwk k then nwa a c e n s k else Q.1 k i, Q.2.1, Q.2.2 + 1)
def Sx (S : MS) (q len : Nat) (x f : Nat → Int32) : MS := fun k => if k = 160 then upd (S 160) q (nI len) else if k = 70 + q then x else if k = 150 + q then f else if k = 80 + q then (fun _ => 0) else if k = 90 + q then (fun _ => 0) else S k
section SX
variable {G : Gt} {Q : Qt} {S : MS} {a c e n s k i q len r : Nat} {x f : Nat → Int32}
theorem Qx_ne (h : ¬ (i = Q.2.2 ∧ nwk k)) : (Qx Q a c e n s).1 k i = Q.1 k i := if_neg h
theorem Qx_k (h : k < 28 ∨ 32 < k) : (Qx Q a c e n s).1 k i = Q.1 k i := if_neg (fun z => by have := z.2; unfold nwk at this; omega)
theorem Qx_y (h : nwk k) : (Qx Q a c e n s).1 k Q.2.2 = nwa a c e n s k := if_pos ⟨rfl, h⟩
theorem Sx_r (hq : q < 6) (h : r < 70 ∨ (100 ≤ r ∧ r < 150)) : Sx S q len x f r = S r := by
  unfold Sx
  rw [if_neg (by omega), if_neg (by omega), if_neg (by omega), if_neg (by omega), if_neg (by omega)]
theorem Sx_t (hq : q < 6) (hi : i < 6) (hne : i ≠ q) (h : r = 70 ∨ r = 80 ∨ r = 90 ∨ r = 150) : Sx S q len x f (r + i) = S (r + i) := by
  unfold Sx
  rw [if_neg (by omega), if_neg (by omega), if_neg (by omega), if_neg (by omega), if_neg (by omega)]
theorem Sx_160 (hne : i ≠ q) : Sx S q len x f 160 i = S 160 i := by
  show upd (S 160) q _ i = _
  rw [pk_un hne]
theorem Sx_q160 : Sx S q len x f 160 q = nI len := by
  show upd (S 160) q _ q = _
  rw [pk_us]
theorem Sx_q70 (hq : q < 6) : Sx S q len x f (70 + q) = x := by unfold Sx; rw [if_neg (by omega), if_pos rfl]
theorem Sx_q150 (hq : q < 6) : Sx S q len x f (150 + q) = f := by unfold Sx; rw [if_neg (by omega), if_neg (by omega), if_pos rfl]
theorem Sx_q80 (hq : q < 6) : Sx S q len x f (80 + q) = fun _ => 0 := by unfold Sx; rw [if_neg (by omega), if_neg (by omega), if_neg (by omega), if_pos rfl]
theorem Sx_q90 (hq : q < 6) : Sx S q len x f (90 + q) = fun _ => 0 := by unfold Sx; rw [if_neg (by omega), if_neg (by omega), if_neg (by omega), if_neg (by omega), if_pos rfl]
theorem Sx_fr (hq : q < 6) : fr [160, 70 + q, 80 + q, 90 + q, 150 + q] S (Sx S q len x f) := fun k hk => by
  simp only [List.mem_cons, List.not_mem_nil, or_false, not_or] at hk
  unfold Sx
  rw [if_neg hk.1, if_neg hk.2.1, if_neg hk.2.2.2.2, if_neg hk.2.2.1, if_neg hk.2.2.2.1]
end SX
section CEx
variable {G : Gt} {Q : Qt} {S : MS} {a c e n s i len : Nat} {x f : Nat → Int32}
theorem cEx_0 (hq : Q.2.2 < 6) (h60 : (S 60 0).toNatClampNeg ≠ Q.2.2) : cE G (Qx Q a c e n s) (Sx S Q.2.2 len x f) 0 i = cE G Q S 0 i := by simp only [cE, Sx_r (S := S) (q := Q.2.2) (len := len) (x := x) (f := f) (r := 16) hq (by omega), Sx_r (S := S) (q := Q.2.2) (len := len) (x := x) (f := f) (r := 17) hq (by omega), Sx_r (S := S) (q := Q.2.2) (len := len) (x := x) (f := f) (r := 39) hq (by omega), Sx_r (S := S) (q := Q.2.2) (len := len) (x := x) (f := f) (r := 41) hq (by omega), Sx_r (S := S) (q := Q.2.2) (len := len) (x := x) (f := f) (r := 42) hq (by omega), Sx_r (S := S) (q := Q.2.2) (len := len) (x := x) (f := f) (r := 6) hq (by omega), Sx_r (S := S) (q := Q.2.2) (len := len) (x := x) (f := f) (r := 60) hq (by omega), Qx_k (Q := Q) (a := a) (c := c) (e := e) (n := n) (s := s) (k := 1) (by decide), Qx_k (Q := Q) (a := a) (c := c) (e := e) (n := n) (s := s) (k := 8) (by decide), Qx_k (Q := Q) (a := a) (c := c) (e := e) (n := n) (s := s) (k := 9) (by decide), Qx_k (Q := Q) (a := a) (c := c) (e := e) (n := n) (s := s) (k := 12) (by decide), Qx_k (Q := Q) (a := a) (c := c) (e := e) (n := n) (s := s) (k := 13) (by decide), Qx_k (Q := Q) (a := a) (c := c) (e := e) (n := n) (s := s) (k := 20) (by decide), Qx_k (Q := Q) (a := a) (c := c) (e := e) (n := n) (s := s) (k := 24) (by decide), Qx_k (Q := Q) (a := a) (c := c) (e := e) (n := n) (s := s) (k := 26) (by decide), Qx_k (Q := Q) (a := a) (c := c) (e := e) (n := n) (s := s) (k := 27) (by decide), Qx_ne (Q := Q) (a := a) (c := c) (e := e) (n := n) (s := s) (k := 28) (i := (S 60 0).toNatClampNeg) (fun z => h60 z.1), show (Qx Q a c e n s).2.1 = Q.2.1 from rfl]
theorem cEx_1 (hq : Q.2.2 < 6) : cE G (Qx Q a c e n s) (Sx S Q.2.2 len x f) 1 i = cE G Q S 1 i := by simp only [cE, Sx_r (S := S) (q := Q.2.2) (len := len) (x := x) (f := f) (r := 1) hq (by omega), Sx_r (S := S) (q := Q.2.2) (len := len) (x := x) (f := f) (r := 40) hq (by omega), Qx_k (Q := Q) (a := a) (c := c) (e := e) (n := n) (s := s) (k := 2) (by decide), Qx_k (Q := Q) (a := a) (c := c) (e := e) (n := n) (s := s) (k := 3) (by decide), Qx_k (Q := Q) (a := a) (c := c) (e := e) (n := n) (s := s) (k := 4) (by decide), Qx_k (Q := Q) (a := a) (c := c) (e := e) (n := n) (s := s) (k := 5) (by decide), Qx_k (Q := Q) (a := a) (c := c) (e := e) (n := n) (s := s) (k := 6) (by decide), Qx_k (Q := Q) (a := a) (c := c) (e := e) (n := n) (s := s) (k := 7) (by decide), show (Qx Q a c e n s).2.1 = Q.2.1 from rfl]
theorem cEx_2 (hq : Q.2.2 < 6) : cE G (Qx Q a c e n s) (Sx S Q.2.2 len x f) 2 i = cE G Q S 2 i := by simp only [cE, Sx_r (S := S) (q := Q.2.2) (len := len) (x := x) (f := f) (r := 2) hq (by omega), show (Qx Q a c e n s).2.1 = Q.2.1 from rfl]
theorem cEx_3 (hq : Q.2.2 < 6) : cE G (Qx Q a c e n s) (Sx S Q.2.2 len x f) 3 i = cE G Q S 3 i := by simp only [cE, Sx_r (S := S) (q := Q.2.2) (len := len) (x := x) (f := f) (r := 3) hq (by omega), show (Qx Q a c e n s).2.1 = Q.2.1 from rfl]
theorem cEx_4 (hq : Q.2.2 < 6) : cE G (Qx Q a c e n s) (Sx S Q.2.2 len x f) 4 i = cE G Q S 4 i := by simp only [cE, Sx_r (S := S) (q := Q.2.2) (len := len) (x := x) (f := f) (r := 4) hq (by omega), show (Qx Q a c e n s).2.1 = Q.2.1 from rfl]
theorem cEx_5 (hq : Q.2.2 < 6) : cE G (Qx Q a c e n s) (Sx S Q.2.2 len x f) 5 i = cE G Q S 5 i := by simp only [cE, Sx_r (S := S) (q := Q.2.2) (len := len) (x := x) (f := f) (r := 5) hq (by omega), show (Qx Q a c e n s).2.1 = Q.2.1 from rfl]
theorem cEx_6 (hq : Q.2.2 < 6) : cE G (Qx Q a c e n s) (Sx S Q.2.2 len x f) 6 i = cE G Q S 6 i := by simp only [cE, Sx_r (S := S) (q := Q.2.2) (len := len) (x := x) (f := f) (r := 43) hq (by omega), show (Qx Q a c e n s).2.1 = Q.2.1 from rfl]
theorem cEx_7 (hq : Q.2.2 < 6) : cE G (Qx Q a c e n s) (Sx S Q.2.2 len x f) 7 i = cE G Q S 7 i := by simp only [cE, Sx_r (S := S) (q := Q.2.2) (len := len) (x := x) (f := f) (r := 44) hq (by omega), show (Qx Q a c e n s).2.1 = Q.2.1 from rfl]
theorem cEx_8 (hq : Q.2.2 < 6) : cE G (Qx Q a c e n s) (Sx S Q.2.2 len x f) 8 i = cE G Q S 8 i := by simp only [cE, Qx_k (Q := Q) (a := a) (c := c) (e := e) (n := n) (s := s) (k := 33) (by decide), show (Qx Q a c e n s).2.1 = Q.2.1 from rfl]
theorem cEx_9 (hq : Q.2.2 < 6) : cE G (Qx Q a c e n s) (Sx S Q.2.2 len x f) 9 i = cE G Q S 9 i := by simp only [cE, Sx_r (S := S) (q := Q.2.2) (len := len) (x := x) (f := f) (r := 15) hq (by omega), Sx_r (S := S) (q := Q.2.2) (len := len) (x := x) (f := f) (r := 62) hq (by omega), Qx_k (Q := Q) (a := a) (c := c) (e := e) (n := n) (s := s) (k := 10) (by decide), Qx_k (Q := Q) (a := a) (c := c) (e := e) (n := n) (s := s) (k := 11) (by decide), show (Qx Q a c e n s).2.1 = Q.2.1 from rfl]
theorem cEx_10 (hq : Q.2.2 < 6) : cE G (Qx Q a c e n s) (Sx S Q.2.2 len x f) 10 i = cE G Q S 10 i := by simp only [cE, Sx_r (S := S) (q := Q.2.2) (len := len) (x := x) (f := f) (r := 14) hq (by omega), show (Qx Q a c e n s).2.1 = Q.2.1 from rfl]
theorem cEx_11 (hq : Q.2.2 < 6) : cE G (Qx Q a c e n s) (Sx S Q.2.2 len x f) 11 i = cE G Q S 11 i := by simp only [cE, Sx_r (S := S) (q := Q.2.2) (len := len) (x := x) (f := f) (r := 63) hq (by omega), show (Qx Q a c e n s).2.1 = Q.2.1 from rfl]
theorem cEx_13 (hq : Q.2.2 < 6) (hi : i < 2) : cE G (Qx Q a c e n s) (Sx S Q.2.2 len x f) 13 i = cE G Q S 13 i := by simp only [cE, Sx_r (S := S) (q := Q.2.2) (len := len) (x := x) (f := f) (r := (120 + 10 * i)) hq (by omega), Qx_k (Q := Q) (a := a) (c := c) (e := e) (n := n) (s := s) (k := 14) (by decide), Qx_k (Q := Q) (a := a) (c := c) (e := e) (n := n) (s := s) (k := 15) (by decide), Qx_k (Q := Q) (a := a) (c := c) (e := e) (n := n) (s := s) (k := 16) (by decide), Qx_k (Q := Q) (a := a) (c := c) (e := e) (n := n) (s := s) (k := 17) (by decide), Qx_k (Q := Q) (a := a) (c := c) (e := e) (n := n) (s := s) (k := 18) (by decide), Qx_k (Q := Q) (a := a) (c := c) (e := e) (n := n) (s := s) (k := 19) (by decide), show (Qx Q a c e n s).2.1 = Q.2.1 from rfl]
theorem cEx_14 (hq : Q.2.2 < 6) (hi : i < 2) : cE G (Qx Q a c e n s) (Sx S Q.2.2 len x f) 14 i = cE G Q S 14 i := by simp only [cE, Sx_r (S := S) (q := Q.2.2) (len := len) (x := x) (f := f) (r := (121 + 10 * i)) hq (by omega), show (Qx Q a c e n s).2.1 = Q.2.1 from rfl]
theorem cEx_15 (hq : Q.2.2 < 6) (hi : i < 2) : cE G (Qx Q a c e n s) (Sx S Q.2.2 len x f) 15 i = cE G Q S 15 i := by simp only [cE, Sx_r (S := S) (q := Q.2.2) (len := len) (x := x) (f := f) (r := (122 + 10 * i)) hq (by omega), show (Qx Q a c e n s).2.1 = Q.2.1 from rfl]
theorem cEx_16 (hq : Q.2.2 < 6) (hi : i < 2) : cE G (Qx Q a c e n s) (Sx S Q.2.2 len x f) 16 i = cE G Q S 16 i := by simp only [cE, Sx_r (S := S) (q := Q.2.2) (len := len) (x := x) (f := f) (r := (123 + 10 * i)) hq (by omega), show (Qx Q a c e n s).2.1 = Q.2.1 from rfl]
theorem cEx_17 (hq : Q.2.2 < 6) (hi : i < 2) : cE G (Qx Q a c e n s) (Sx S Q.2.2 len x f) 17 i = cE G Q S 17 i := by simp only [cE, Sx_r (S := S) (q := Q.2.2) (len := len) (x := x) (f := f) (r := (124 + 10 * i)) hq (by omega), show (Qx Q a c e n s).2.1 = Q.2.1 from rfl]
theorem cEx_18 (hq : Q.2.2 < 6) (hi : i < 2) : cE G (Qx Q a c e n s) (Sx S Q.2.2 len x f) 18 i = cE G Q S 18 i := by simp only [cE, Sx_r (S := S) (q := Q.2.2) (len := len) (x := x) (f := f) (r := (125 + 10 * i)) hq (by omega), show (Qx Q a c e n s).2.1 = Q.2.1 from rfl]
theorem cEx_19 (hq : Q.2.2 < 6) (hi : i < 2) : cE G (Qx Q a c e n s) (Sx S Q.2.2 len x f) 19 i = cE G Q S 19 i := by simp only [cE, Sx_r (S := S) (q := Q.2.2) (len := len) (x := x) (f := f) (r := (126 + 10 * i)) hq (by omega), show (Qx Q a c e n s).2.1 = Q.2.1 from rfl]
theorem cEx_20 (hq : Q.2.2 < 6) : cE G (Qx Q a c e n s) (Sx S Q.2.2 len x f) 20 i = cE G Q S 20 i := by simp only [cE, Sx_r (S := S) (q := Q.2.2) (len := len) (x := x) (f := f) (r := 66) hq (by omega), Qx_k (Q := Q) (a := a) (c := c) (e := e) (n := n) (s := s) (k := 13) (by decide), Qx_k (Q := Q) (a := a) (c := c) (e := e) (n := n) (s := s) (k := 21) (by decide), Qx_k (Q := Q) (a := a) (c := c) (e := e) (n := n) (s := s) (k := 22) (by decide), show (Qx Q a c e n s).2.1 = Q.2.1 from rfl]
theorem cEx_21 (hq : Q.2.2 < 6) : cE G (Qx Q a c e n s) (Sx S Q.2.2 len x f) 21 i = cE G Q S 21 i := by simp only [cE, Sx_r (S := S) (q := Q.2.2) (len := len) (x := x) (f := f) (r := 67) hq (by omega), Qx_k (Q := Q) (a := a) (c := c) (e := e) (n := n) (s := s) (k := 33) (by decide), show (Qx Q a c e n s).2.1 = Q.2.1 from rfl]
theorem cEx_22 (hq : Q.2.2 < 6) : cE G (Qx Q a c e n s) (Sx S Q.2.2 len x f) 22 i = cE G Q S 22 i := by simp only [cE, Qx_k (Q := Q) (a := a) (c := c) (e := e) (n := n) (s := s) (k := 23) (by decide), show (Qx Q a c e n s).2.1 = Q.2.1 from rfl]
theorem cEx_23 (hq : Q.2.2 < 6) (hi : i < 4) : cE G (Qx Q a c e n s) (Sx S Q.2.2 len x f) 23 i = cE G Q S 23 i := by simp only [cE, Sx_r (S := S) (q := Q.2.2) (len := len) (x := x) (f := f) (r := (100 + i)) hq (by omega), show (Qx Q a c e n s).2.1 = Q.2.1 from rfl]
theorem cEx_24 (hq : Q.2.2 < 6) : cE G (Qx Q a c e n s) (Sx S Q.2.2 len x f) 24 i = cE G Q S 24 i := by simp only [cE, Qx_k (Q := Q) (a := a) (c := c) (e := e) (n := n) (s := s) (k := 25) (by decide), show (Qx Q a c e n s).2.1 = Q.2.1 from rfl]
theorem cEx_25 (hq : Q.2.2 < 6) (hi : i < 4) : cE G (Qx Q a c e n s) (Sx S Q.2.2 len x f) 25 i = cE G Q S 25 i := by simp only [cE, Sx_r (S := S) (q := Q.2.2) (len := len) (x := x) (f := f) (r := (110 + i)) hq (by omega), show (Qx Q a c e n s).2.1 = Q.2.1 from rfl]
theorem cEx_26 (hq : Q.2.2 < 6) : cE G (Qx Q a c e n s) (Sx S Q.2.2 len x f) 26 i = cE G Q S 26 i := by simp only [cE, Sx_r (S := S) (q := Q.2.2) (len := len) (x := x) (f := f) (r := 48) hq (by omega), show (Qx Q a c e n s).2.1 = Q.2.1 from rfl]
theorem cEx_27 (hq : Q.2.2 < 6) : cE G (Qx Q a c e n s) (Sx S Q.2.2 len x f) 27 i = cE G Q S 27 i := by simp only [cE, Sx_r (S := S) (q := Q.2.2) (len := len) (x := x) (f := f) (r := 49) hq (by omega), show (Qx Q a c e n s).2.1 = Q.2.1 from rfl]
theorem cEx_33 (hq : Q.2.2 < 6) : cE G (Qx Q a c e n s) (Sx S Q.2.2 len x f) 33 i = cE G Q S 33 i := by simp only [cE, Sx_r (S := S) (q := Q.2.2) (len := len) (x := x) (f := f) (r := 10) hq (by omega), Sx_r (S := S) (q := Q.2.2) (len := len) (x := x) (f := f) (r := 11) hq (by omega), Sx_r (S := S) (q := Q.2.2) (len := len) (x := x) (f := f) (r := 12) hq (by omega), Sx_r (S := S) (q := Q.2.2) (len := len) (x := x) (f := f) (r := 13) hq (by omega), Sx_r (S := S) (q := Q.2.2) (len := len) (x := x) (f := f) (r := 45) hq (by omega), Sx_r (S := S) (q := Q.2.2) (len := len) (x := x) (f := f) (r := 46) hq (by omega), Sx_r (S := S) (q := Q.2.2) (len := len) (x := x) (f := f) (r := 47) hq (by omega), Sx_r (S := S) (q := Q.2.2) (len := len) (x := x) (f := f) (r := 7) hq (by omega), Sx_r (S := S) (q := Q.2.2) (len := len) (x := x) (f := f) (r := 8) hq (by omega), Sx_r (S := S) (q := Q.2.2) (len := len) (x := x) (f := f) (r := 9) hq (by omega), show (Qx Q a c e n s).2.1 = Q.2.1 from rfl]
theorem cEx_28 (hq : Q.2.2 < 6) (hi : i < 6) (hne : i ≠ Q.2.2) : cE G (Qx Q a c e n s) (Sx S Q.2.2 len x f) 28 i = cE G Q S 28 i := by simp only [cE, Qx_ne (Q := Q) (a := a) (c := c) (e := e) (n := n) (s := s) (k := 29) (i := i) (fun z => hne z.1), Qx_ne (Q := Q) (a := a) (c := c) (e := e) (n := n) (s := s) (k := 30) (i := i) (fun z => hne z.1), Qx_ne (Q := Q) (a := a) (c := c) (e := e) (n := n) (s := s) (k := 32) (i := i) (fun z => hne z.1), Qx_ne (Q := Q) (a := a) (c := c) (e := e) (n := n) (s := s) (k := 31) (i := i) (fun z => hne z.1)]
theorem cEx_29 (hq : Q.2.2 < 6) (hi : i < 6) (hne : i ≠ Q.2.2) : cE G (Qx Q a c e n s) (Sx S Q.2.2 len x f) 29 i = cE G Q S 29 i := by simp only [cE, Sx_t (S := S) (q := Q.2.2) (len := len) (x := x) (f := f) (r := 70) (i := i) hq hi hne (by decide), Sx_160 (S := S) (len := len) (x := x) (f := f) hne]
theorem cEx_30 (hq : Q.2.2 < 6) (hi : i < 6) (hne : i ≠ Q.2.2) : cE G (Qx Q a c e n s) (Sx S Q.2.2 len x f) 30 i = cE G Q S 30 i := by simp only [cE, Sx_t (S := S) (q := Q.2.2) (len := len) (x := x) (f := f) (r := 150) (i := i) hq hi hne (by decide)]
theorem cEx_31 (hq : Q.2.2 < 6) (hi : i < 6) (hne : i ≠ Q.2.2) : cE G (Qx Q a c e n s) (Sx S Q.2.2 len x f) 31 i = cE G Q S 31 i := by simp only [cE, Sx_t (S := S) (q := Q.2.2) (len := len) (x := x) (f := f) (r := 80) (i := i) hq hi hne (by decide)]
theorem cEx_32 (hq : Q.2.2 < 6) (hi : i < 6) (hne : i ≠ Q.2.2) : cE G (Qx Q a c e n s) (Sx S Q.2.2 len x f) 32 i = cE G Q S 32 i := by simp only [cE, Sx_t (S := S) (q := Q.2.2) (len := len) (x := x) (f := f) (r := 90) (i := i) hq hi hne (by decide), Sx_160 (S := S) (len := len) (x := x) (f := f) hne]
theorem cEx_12 : cE G (Qx Q a c e n s) (Sx S Q.2.2 len x f) 12 i = .inl (gC G 4, 6, .inr (.inr (.inr (.inr (va_up (fun q => if q < Q.2.2 then some (Q.1 28 q) else none) Q.2.2 (some a)))))) := by
  show (.inl (gC G 4, 6, .inr (.inr (.inr (.inr (fun q => if q < Q.2.2 + 1 then some ((Qx Q a c e n s).1 28 q) else none))))) : va_E) = _
  congr 7
  funext q
  by_cases h : q = Q.2.2
  · subst h
    rw [va_up_self, if_pos (Nat.lt_succ_self _), Qx_y (Or.inl rfl)]
    rfl
  · rw [va_up_ne _ _ h, Qx_ne (fun z => h z.1)]
    by_cases h2 : q < Q.2.2
    · rw [if_pos h2, if_pos (by omega)]
    · rw [if_neg h2, if_neg (by omega)]
theorem cEx_n (hq : Q.2.2 < 6) (hl : len ≤ 100000) : cE G (Qx Q a c e n s) (Sx S Q.2.2 len x f) 28 Q.2.2 = .inr (9, [.ref c, .ref e, .ref s, .ref n]) ∧ cE G (Qx Q a c e n s) (Sx S Q.2.2 len x f) 29 Q.2.2 = .inl (gC G 0, len, .inl x) ∧ cE G (Qx Q a c e n s) (Sx S Q.2.2 len x f) 30 Q.2.2 = .inl (gC G 0, 3, .inl f) ∧ cE G (Qx Q a c e n s) (Sx S Q.2.2 len x f) 31 Q.2.2 = .inl (gC G 0, 6, .inl (fun _ => 0)) ∧ cE G (Qx Q a c e n s) (Sx S Q.2.2 len x f) 32 Q.2.2 = .inl (gC G 0, len, .inl (fun _ => 0)) := by
  refine ⟨?_, ?_, ?_, ?_, ?_⟩
  · show (.inr (9, [.ref ((Qx Q a c e n s).1 29 Q.2.2), .ref ((Qx Q a c e n s).1 30 Q.2.2), .ref ((Qx Q a c e n s).1 32 Q.2.2), .ref ((Qx Q a c e n s).1 31 Q.2.2)]) : va_E) = _
    rw [Qx_y (by unfold nwk; omega), Qx_y (by unfold nwk; omega), Qx_y (by unfold nwk; omega), Qx_y (by unfold nwk; omega)]
    rfl
  · simp only [cE, Sx_q160, Sx_q70 (S := S) (len := len) (x := x) (f := f) hq]
    rw [nI_clamp (by omega)]
  · simp only [cE, Sx_q150 (S := S) (len := len) (x := x) (f := f) hq]
  · simp only [cE, Sx_q80 (S := S) (len := len) (x := x) (f := f) hq]
  · simp only [cE, Sx_q160, Sx_q90 (S := S) (len := len) (x := x) (f := f) hq]
    rw [nI_clamp (by omega)]
end CEx
theorem lim_x {Q : Qt} {a c e n s k i : Nat} (h : i < lim (Qx Q a c e n s) k) : (i = Q.2.2 ∧ nwk k) ∨ (¬ (i = Q.2.2 ∧ nwk k) ∧ i < lim Q k) := by
  by_cases z : i = Q.2.2 ∧ nwk k
  · exact Or.inl z
  · refine Or.inr ⟨z, ?_⟩
    have hk := lim_k h
    rcases (by omega : k = 0 ∨ k = 1 ∨ k = 2 ∨ k = 3 ∨ k = 4 ∨ k = 5 ∨ k = 6 ∨ k = 7 ∨ k = 8 ∨ k = 9 ∨ k = 10 ∨ k = 11 ∨ k = 12 ∨ k = 13 ∨ k = 14 ∨ k = 15 ∨ k = 16 ∨ k = 17 ∨ k = 18 ∨ k = 19 ∨ k = 20 ∨ k = 21 ∨ k = 22 ∨ k = 23 ∨ k = 24 ∨ k = 25 ∨ k = 26 ∨ k = 27 ∨ k = 28 ∨ k = 29 ∨ k = 30 ∨ k = 31 ∨ k = 32 ∨ k = 33) with rfl | rfl | rfl | rfl | rfl | rfl | rfl | rfl | rfl | rfl | rfl | rfl | rfl | rfl | rfl | rfl | rfl | rfl | rfl | rfl | rfl | rfl | rfl | rfl | rfl | rfl | rfl | rfl | rfl | rfl | rfl | rfl | rfl | rfl
    · exact h
    · exact h
    · exact h
    · exact h
    · exact h
    · exact h
    · exact h
    · exact h
    · exact h
    · exact h
    · exact h
    · exact h
    · exact h
    · exact h
    · exact h
    · exact h
    · exact h
    · exact h
    · exact h
    · exact h
    · exact h
    · exact h
    · exact h
    · exact h
    · exact h
    · exact h
    · exact h
    · exact h
    · have h2 : i < Q.2.2 + 1 := h
      show i < Q.2.2
      have : i ≠ Q.2.2 := fun w => z ⟨w, by unfold nwk; omega⟩
      omega
    · have h2 : i < Q.2.2 + 1 := h
      show i < Q.2.2
      have : i ≠ Q.2.2 := fun w => z ⟨w, by unfold nwk; omega⟩
      omega
    · have h2 : i < Q.2.2 + 1 := h
      show i < Q.2.2
      have : i ≠ Q.2.2 := fun w => z ⟨w, by unfold nwk; omega⟩
      omega
    · have h2 : i < Q.2.2 + 1 := h
      show i < Q.2.2
      have : i ≠ Q.2.2 := fun w => z ⟨w, by unfold nwk; omega⟩
      omega
    · have h2 : i < Q.2.2 + 1 := h
      show i < Q.2.2
      have : i ≠ Q.2.2 := fun w => z ⟨w, by unfold nwk; omega⟩
      omega
    · exact h
theorem text_pic {G : Gt} {m : Nat → Prop} {M0 : Nat → va_E} {Q : Qt} {S : MS} {h : Ht} {a c e n s len : Nat} {x f : Nat → Int32} (hp : CPic G m M0 Q S h) (hN : NT G m Q h a c e n s len x f) (hq : Q.2.2 < 6) (hlen : len ≤ 100000) (h60 : (S 60 0).toNatClampNeg ≠ Q.2.2) : CPic G m M0 (Qx Q a c e n s) (Sx S Q.2.2 len x f) (h.1, va_up h.2 (Q.1 12 0) (.inl (gC G 4, 6, .inr (.inr (.inr (.inr (va_up (fun q => if q < Q.2.2 then some (Q.1 28 q) else none) Q.2.2 (some a)))))))) := by
  obtain ⟨p1, p2, p3, ⟨p4, p5, p6⟩, p7⟩ := hp
  obtain ⟨n1, n2, n3, n4, n5, n6, n7⟩ := hN
  have nw : ∀ k, nwk k → (gB G ≤ nwa a c e n s k ∧ nwa a c e n s k < h.1 ∧ ¬ m (nwa a c e n s k) ∧ ∀ k' i', i' < lim Q k' → Q.1 k' i' ≠ nwa a c e n s k) := fun k hk => by
    rcases hk with rfl | rfl | rfl | rfl | rfl
    · exact n1 a (Or.inl rfl)
    · exact n1 c (Or.inr (Or.inl rfl))
    · exact n1 e (Or.inr (Or.inr (Or.inl rfl)))
    · exact n1 n (Or.inr (Or.inr (Or.inr (Or.inl rfl))))
    · exact n1 s (Or.inr (Or.inr (Or.inr (Or.inr rfl))))
  have nj : ∀ k k', nwk k → nwk k' → nwa a c e n s k = nwa a c e n s k' → k = k' := fun k k' hk hk' he => by
    obtain ⟨d1, d2, d3, d4, d5, d6, d7, d8, d9, d10⟩ := n2
    rcases hk with rfl | rfl | rfl | rfl | rfl <;> rcases hk' with rfl | rfl | rfl | rfl | rfl <;> simp [nwa] at he ⊢ <;> first | exact d1 he | exact d2 he | exact d3 he | exact d4 he | exact d5 he | exact d6 he | exact d7 he | exact d8 he | exact d9 he | exact d10 he | exact d1 he.symm | exact d2 he.symm | exact d3 he.symm | exact d4 he.symm | exact d5 he.symm | exact d6 he.symm | exact d7 he.symm | exact d8 he.symm | exact d9 he.symm | exact d10 he.symm
  obtain ⟨c28, c29, c30, c31, c32⟩ := cEx_n (G := G) (Q := Q) (S := S) (a := a) (c := c) (e := e) (n := n) (s := s) (x := x) (f := f) hq hlen
  refine ⟨fun k' i' hl => ?_, fun k1 i1 k2 i2 hl1 hl2 he => ?_, fun k' i' hl => ?_, ⟨fun a ha => p4 a ha, hq, p6⟩, fun a ha => ?_⟩
  · rcases lim_x hl with ⟨rfl, hk⟩ | ⟨hne, hl'⟩
    · rw [Qx_y hk]
      have := nw k' hk
      exact ⟨this.1, this.2.1, this.2.2.1⟩
    · rw [Qx_ne hne]
      exact p1 k' i' hl'
  · rcases lim_x hl1 with ⟨rfl, hk1⟩ | ⟨hne1, hl1'⟩
    · rcases lim_x hl2 with ⟨rfl, hk2⟩ | ⟨hne2, hl2'⟩
      · rw [Qx_y hk1, Qx_y hk2] at he
        exact ⟨nj _ _ hk1 hk2 he, rfl⟩
      · rw [Qx_ne hne2, Qx_y hk1] at he
        exact absurd he.symm ((nw _ hk1).2.2.2 k2 i2 hl2')
    · rcases lim_x hl2 with ⟨rfl, hk2⟩ | ⟨hne2, hl2'⟩
      · rw [Qx_ne hne1, Qx_y hk2] at he
        exact absurd he ((nw _ hk2).2.2.2 k1 i1 hl1')
      · rw [Qx_ne hne1, Qx_ne hne2] at he
        exact p2 k1 i1 k2 i2 hl1' hl2' he
  · show va_up h.2 (Q.1 12 0) _ ((Qx Q a c e n s).1 k' i') = _
    rcases lim_x hl with ⟨rfl, hk⟩ | ⟨hne, hl'⟩
    · rw [Qx_y hk, va_up_ne _ _ (fun w => (nw _ hk).2.2.2 12 0 Nat.one_pos w.symm)]
      rcases hk with rfl | rfl | rfl | rfl | rfl
      · rw [c28]; exact n3
      · rw [c29]; exact n4
      · rw [c30]; exact n5
      · rw [c31]; exact n6
      · rw [c32]; exact n7
    · rw [Qx_ne hne]
      by_cases e12 : k' = 12
      · subst e12
        obtain rfl : i' = 0 := by have : i' < 1 := hl'; omega
        rw [va_up_self, cEx_12]
      · rw [va_up_ne _ _ (fun w => e12 (p2 k' i' 12 0 hl' Nat.one_pos w).1), p3 k' i' hl']
        symm
        have hk := lim_k hl'
        rcases (by omega : k' = 0 ∨ k' = 1 ∨ k' = 2 ∨ k' = 3 ∨ k' = 4 ∨ k' = 5 ∨ k' = 6 ∨ k' = 7 ∨ k' = 8 ∨ k' = 9 ∨ k' = 10 ∨ k' = 11 ∨ k' = 12 ∨ k' = 13 ∨ k' = 14 ∨ k' = 15 ∨ k' = 16 ∨ k' = 17 ∨ k' = 18 ∨ k' = 19 ∨ k' = 20 ∨ k' = 21 ∨ k' = 22 ∨ k' = 23 ∨ k' = 24 ∨ k' = 25 ∨ k' = 26 ∨ k' = 27 ∨ k' = 28 ∨ k' = 29 ∨ k' = 30 ∨ k' = 31 ∨ k' = 32 ∨ k' = 33) with rfl | rfl | rfl | rfl | rfl | rfl | rfl | rfl | rfl | rfl | rfl | rfl | rfl | rfl | rfl | rfl | rfl | rfl | rfl | rfl | rfl | rfl | rfl | rfl | rfl | rfl | rfl | rfl | rfl | rfl | rfl | rfl | rfl | rfl
        · exact cEx_0 hq h60
        · exact cEx_1 hq
        · exact cEx_2 hq
        · exact cEx_3 hq
        · exact cEx_4 hq
        · exact cEx_5 hq
        · exact cEx_6 hq
        · exact cEx_7 hq
        · exact cEx_8 hq
        · exact cEx_9 hq
        · exact cEx_10 hq
        · exact cEx_11 hq
        · exact absurd rfl e12
        · exact cEx_13 hq hl'
        · exact cEx_14 hq hl'
        · exact cEx_15 hq hl'
        · exact cEx_16 hq hl'
        · exact cEx_17 hq hl'
        · exact cEx_18 hq hl'
        · exact cEx_19 hq hl'
        · exact cEx_20 hq
        · exact cEx_21 hq
        · exact cEx_22 hq
        · exact cEx_23 hq hl'
        · exact cEx_24 hq
        · exact cEx_25 hq hl'
        · exact cEx_26 hq
        · exact cEx_27 hq
        · exact cEx_28 hq (by have : i' < Q.2.2 := hl'; omega) (fun w => hne ⟨w, by unfold nwk; omega⟩)
        · exact cEx_29 hq (by have : i' < Q.2.2 := hl'; omega) (fun w => hne ⟨w, by unfold nwk; omega⟩)
        · exact cEx_30 hq (by have : i' < Q.2.2 := hl'; omega) (fun w => hne ⟨w, by unfold nwk; omega⟩)
        · exact cEx_31 hq (by have : i' < Q.2.2 := hl'; omega) (fun w => hne ⟨w, by unfold nwk; omega⟩)
        · exact cEx_32 hq (by have : i' < Q.2.2 := hl'; omega) (fun w => hne ⟨w, by unfold nwk; omega⟩)
        · exact cEx_33 hq
  · show va_up h.2 (Q.1 12 0) _ a = _
    rw [va_up_ne _ _ (fun w => (p1 12 0 Nat.one_pos).2.2 (by rw [← w]; exact ha))]
    exact p7 a ha
