/-! THE REFERENCE: tokens -/
def wN (tp : Nat → Int32) (a b : Nat) : Int32 := if bI (isWb tp a b 111 117 110 99 101 115 6) = 0 then (if bI (isWb tp a b 97 112 97 114 116 0 5) = 0 then (if bI (isWb tp a b 115 105 122 101 0 0 4) = 0 then (if bI (isWb tp a b 119 111 114 110 0 0 4) = 0 then (if bI (isWb tp a b 102 97 100 101 100 0 5) = 0 then (if bI (isWb tp a b 118 97 116 0 0 0 3) = 0 then (if bI (isWb tp a b 98 101 97 114 0 0 4) = 0 then (if bI (isWb tp a b 115 101 101 110 0 0 4) = 0 then (if bI (isWb tp a b 107 101 101 112 0 0 4) = 0 then (if bI (isWb tp a b 111 114 0 0 0 0 2) = 0 then (if bI (isWb tp a b 97 110 100 0 0 0 3) = 0 then (if bI (isWb tp a b 110 111 116 0 0 0 3) = 0 then (-1) else 15) else 14) else 13) else 12) else 11) else 10) else 5) else 4) else 3) else 2) else 1) else 0
set_option maxHeartbeats 4000000 in
set_option maxRecDepth 100000 in
theorem c_X12_wordNow (G : Gt) (m : Nat) (h0 : Ht) (S : MS) (a b s : Nat) (v f : Int32) (o : Nat) (L : List (Int32 × Int32)) (hab : a ≤ b) (hb : b ≤ 160) : PC G (MPic G m h0) 2 Y12_wordNow [.ref m] (lay S a b s v f o L) 0 0 (ri (fun x S' => x = wN (S 14) a b ∧ S' = (lay S a b s v f o L))) := by
  refine pc_of (ls := [some (.ref m)]) (by decide +kernel) rfl (Nat.le_of_ble_eq_true rfl) ?_
  refine px_aload_n dX12_wordNow_0 rfl rfl ?_
  refine px_bipush (v := 111) dX12_wordNow_1 (by decide) ?_
  refine px_bipush (v := 117) dX12_wordNow_3 (by decide) ?_
  refine px_bipush (v := 110) dX12_wordNow_5 (by decide) ?_
  refine px_bipush (v := 99) dX12_wordNow_7 (by decide) ?_
  refine px_bipush (v := 101) dX12_wordNow_9 (by decide) ?_
  refine px_bipush (v := 115) dX12_wordNow_11 (by decide) ?_
  refine px_bipush (v := 6) dX12_wordNow_13 (by decide) ?_
  refine mx_callI7 dX12_wordNow_15 lX12_158 rfl (c_X12_isWord G m h0 S a b s v f o L 111 117 110 99 101 115 6 (by decide) hab hb) (by decide) (Nat.le_of_ble_eq_true rfl) (fun x15 S15 Q15 => ?_)
  obtain ⟨rfl, e15⟩ := Q15
  obtain rfl := e15.symm
  refine px_if_eq (tgt := 23) dX12_wordNow_18 (by decide) (fun H18 => ?_) (fun H18 => ?_)
  · skip
    refine px_aload_n dX12_wordNow_23 rfl rfl ?_
    refine px_bipush (v := 97) dX12_wordNow_24 (by decide) ?_
    refine px_bipush (v := 112) dX12_wordNow_26 (by decide) ?_
    refine px_bipush (v := 97) dX12_wordNow_28 (by decide) ?_
    refine px_bipush (v := 114) dX12_wordNow_30 (by decide) ?_
    refine px_bipush (v := 116) dX12_wordNow_32 (by decide) ?_
    refine px_iconst (v := 0) dX12_wordNow_34 (by decide) ?_
    refine px_iconst (v := 5) dX12_wordNow_35 (by decide) ?_
    refine mx_callI7 dX12_wordNow_36 lX12_158 rfl (c_X12_isWord G m h0 S a b s v f o L 97 112 97 114 116 0 5 (by decide) hab hb) (by decide) (Nat.le_of_ble_eq_true rfl) (fun x36 S36 Q36 => ?_)
    obtain ⟨rfl, e36⟩ := Q36
    obtain rfl := e36.symm
    refine px_if_eq (tgt := 44) dX12_wordNow_39 (by decide) (fun H39 => ?_) (fun H39 => ?_)
    · skip
      refine px_aload_n dX12_wordNow_44 rfl rfl ?_
      refine px_bipush (v := 115) dX12_wordNow_45 (by decide) ?_
      refine px_bipush (v := 105) dX12_wordNow_47 (by decide) ?_
      refine px_bipush (v := 122) dX12_wordNow_49 (by decide) ?_
      refine px_bipush (v := 101) dX12_wordNow_51 (by decide) ?_
      refine px_iconst (v := 0) dX12_wordNow_53 (by decide) ?_
      refine px_iconst (v := 0) dX12_wordNow_54 (by decide) ?_
      refine px_iconst (v := 4) dX12_wordNow_55 (by decide) ?_
      refine mx_callI7 dX12_wordNow_56 lX12_158 rfl (c_X12_isWord G m h0 S a b s v f o L 115 105 122 101 0 0 4 (by decide) hab hb) (by decide) (Nat.le_of_ble_eq_true rfl) (fun x56 S56 Q56 => ?_)
      obtain ⟨rfl, e56⟩ := Q56
      obtain rfl := e56.symm
      refine px_if_eq (tgt := 64) dX12_wordNow_59 (by decide) (fun H59 => ?_) (fun H59 => ?_)
      · skip
        refine px_aload_n dX12_wordNow_64 rfl rfl ?_
        refine px_bipush (v := 119) dX12_wordNow_65 (by decide) ?_
        refine px_bipush (v := 111) dX12_wordNow_67 (by decide) ?_
        refine px_bipush (v := 114) dX12_wordNow_69 (by decide) ?_
        refine px_bipush (v := 110) dX12_wordNow_71 (by decide) ?_
        refine px_iconst (v := 0) dX12_wordNow_73 (by decide) ?_
        refine px_iconst (v := 0) dX12_wordNow_74 (by decide) ?_
        refine px_iconst (v := 4) dX12_wordNow_75 (by decide) ?_
        refine mx_callI7 dX12_wordNow_76 lX12_158 rfl (c_X12_isWord G m h0 S a b s v f o L 119 111 114 110 0 0 4 (by decide) hab hb) (by decide) (Nat.le_of_ble_eq_true rfl) (fun x76 S76 Q76 => ?_)
        obtain ⟨rfl, e76⟩ := Q76
        obtain rfl := e76.symm
        refine px_if_eq (tgt := 84) dX12_wordNow_79 (by decide) (fun H79 => ?_) (fun H79 => ?_)
        · skip
          refine px_aload_n dX12_wordNow_84 rfl rfl ?_
          refine px_bipush (v := 102) dX12_wordNow_85 (by decide) ?_
          refine px_bipush (v := 97) dX12_wordNow_87 (by decide) ?_
          refine px_bipush (v := 100) dX12_wordNow_89 (by decide) ?_
          refine px_bipush (v := 101) dX12_wordNow_91 (by decide) ?_
          refine px_bipush (v := 100) dX12_wordNow_93 (by decide) ?_
          refine px_iconst (v := 0) dX12_wordNow_95 (by decide) ?_
          refine px_iconst (v := 5) dX12_wordNow_96 (by decide) ?_
          refine mx_callI7 dX12_wordNow_97 lX12_158 rfl (c_X12_isWord G m h0 S a b s v f o L 102 97 100 101 100 0 5 (by decide) hab hb) (by decide) (Nat.le_of_ble_eq_true rfl) (fun x97 S97 Q97 => ?_)
          obtain ⟨rfl, e97⟩ := Q97
          obtain rfl := e97.symm
          refine px_if_eq (tgt := 105) dX12_wordNow_100 (by decide) (fun H100 => ?_) (fun H100 => ?_)
          · skip
            refine px_aload_n dX12_wordNow_105 rfl rfl ?_
            refine px_bipush (v := 118) dX12_wordNow_106 (by decide) ?_
            refine px_bipush (v := 97) dX12_wordNow_108 (by decide) ?_
            refine px_bipush (v := 116) dX12_wordNow_110 (by decide) ?_
            refine px_iconst (v := 0) dX12_wordNow_112 (by decide) ?_
            refine px_iconst (v := 0) dX12_wordNow_113 (by decide) ?_
            refine px_iconst (v := 0) dX12_wordNow_114 (by decide) ?_
            refine px_iconst (v := 3) dX12_wordNow_115 (by decide) ?_
            refine mx_callI7 dX12_wordNow_116 lX12_158 rfl (c_X12_isWord G m h0 S a b s v f o L 118 97 116 0 0 0 3 (by decide) hab hb) (by decide) (Nat.le_of_ble_eq_true rfl) (fun x116 S116 Q116 => ?_)
            obtain ⟨rfl, e116⟩ := Q116
            obtain rfl := e116.symm
            refine px_if_eq (tgt := 124) dX12_wordNow_119 (by decide) (fun H119 => ?_) (fun H119 => ?_)
            · skip
              refine px_aload_n dX12_wordNow_124 rfl rfl ?_
              refine px_bipush (v := 98) dX12_wordNow_125 (by decide) ?_
              refine px_bipush (v := 101) dX12_wordNow_127 (by decide) ?_
              refine px_bipush (v := 97) dX12_wordNow_129 (by decide) ?_
              refine px_bipush (v := 114) dX12_wordNow_131 (by decide) ?_
              refine px_iconst (v := 0) dX12_wordNow_133 (by decide) ?_
              refine px_iconst (v := 0) dX12_wordNow_134 (by decide) ?_
              refine px_iconst (v := 4) dX12_wordNow_135 (by decide) ?_
              refine mx_callI7 dX12_wordNow_136 lX12_158 rfl (c_X12_isWord G m h0 S a b s v f o L 98 101 97 114 0 0 4 (by decide) hab hb) (by decide) (Nat.le_of_ble_eq_true rfl) (fun x136 S136 Q136 => ?_)
              obtain ⟨rfl, e136⟩ := Q136
              obtain rfl := e136.symm
              refine px_if_eq (tgt := 145) dX12_wordNow_139 (by decide) (fun H139 => ?_) (fun H139 => ?_)
              · skip
                refine px_aload_n dX12_wordNow_145 rfl rfl ?_
                refine px_bipush (v := 115) dX12_wordNow_146 (by decide) ?_
                refine px_bipush (v := 101) dX12_wordNow_148 (by decide) ?_
                refine px_bipush (v := 101) dX12_wordNow_150 (by decide) ?_
                refine px_bipush (v := 110) dX12_wordNow_152 (by decide) ?_
                refine px_iconst (v := 0) dX12_wordNow_154 (by decide) ?_
                refine px_iconst (v := 0) dX12_wordNow_155 (by decide) ?_
                refine px_iconst (v := 4) dX12_wordNow_156 (by decide) ?_
                refine mx_callI7 dX12_wordNow_157 lX12_158 rfl (c_X12_isWord G m h0 S a b s v f o L 115 101 101 110 0 0 4 (by decide) hab hb) (by decide) (Nat.le_of_ble_eq_true rfl) (fun x157 S157 Q157 => ?_)
                obtain ⟨rfl, e157⟩ := Q157
                obtain rfl := e157.symm
                refine px_if_eq (tgt := 166) dX12_wordNow_160 (by decide) (fun H160 => ?_) (fun H160 => ?_)
                · skip
                  refine px_aload_n dX12_wordNow_166 rfl rfl ?_
                  refine px_bipush (v := 107) dX12_wordNow_167 (by decide) ?_
                  refine px_bipush (v := 101) dX12_wordNow_169 (by decide) ?_
                  refine px_bipush (v := 101) dX12_wordNow_171 (by decide) ?_
                  refine px_bipush (v := 112) dX12_wordNow_173 (by decide) ?_
                  refine px_iconst (v := 0) dX12_wordNow_175 (by decide) ?_
                  refine px_iconst (v := 0) dX12_wordNow_176 (by decide) ?_
                  refine px_iconst (v := 4) dX12_wordNow_177 (by decide) ?_
                  refine mx_callI7 dX12_wordNow_178 lX12_158 rfl (c_X12_isWord G m h0 S a b s v f o L 107 101 101 112 0 0 4 (by decide) hab hb) (by decide) (Nat.le_of_ble_eq_true rfl) (fun x178 S178 Q178 => ?_)
                  obtain ⟨rfl, e178⟩ := Q178
                  obtain rfl := e178.symm
                  refine px_if_eq (tgt := 187) dX12_wordNow_181 (by decide) (fun H181 => ?_) (fun H181 => ?_)
                  · skip
                    refine px_aload_n dX12_wordNow_187 rfl rfl ?_
                    refine px_bipush (v := 111) dX12_wordNow_188 (by decide) ?_
                    refine px_bipush (v := 114) dX12_wordNow_190 (by decide) ?_
                    refine px_iconst (v := 0) dX12_wordNow_192 (by decide) ?_
                    refine px_iconst (v := 0) dX12_wordNow_193 (by decide) ?_
                    refine px_iconst (v := 0) dX12_wordNow_194 (by decide) ?_
                    refine px_iconst (v := 0) dX12_wordNow_195 (by decide) ?_
                    refine px_iconst (v := 2) dX12_wordNow_196 (by decide) ?_
                    refine mx_callI7 dX12_wordNow_197 lX12_158 rfl (c_X12_isWord G m h0 S a b s v f o L 111 114 0 0 0 0 2 (by decide) hab hb) (by decide) (Nat.le_of_ble_eq_true rfl) (fun x197 S197 Q197 => ?_)
                    obtain ⟨rfl, e197⟩ := Q197
                    obtain rfl := e197.symm
                    refine px_if_eq (tgt := 206) dX12_wordNow_200 (by decide) (fun H200 => ?_) (fun H200 => ?_)
                    · skip
                      refine px_aload_n dX12_wordNow_206 rfl rfl ?_
                      refine px_bipush (v := 97) dX12_wordNow_207 (by decide) ?_
                      refine px_bipush (v := 110) dX12_wordNow_209 (by decide) ?_
                      refine px_bipush (v := 100) dX12_wordNow_211 (by decide) ?_
                      refine px_iconst (v := 0) dX12_wordNow_213 (by decide) ?_
                      refine px_iconst (v := 0) dX12_wordNow_214 (by decide) ?_
                      refine px_iconst (v := 0) dX12_wordNow_215 (by decide) ?_
                      refine px_iconst (v := 3) dX12_wordNow_216 (by decide) ?_
                      refine mx_callI7 dX12_wordNow_217 lX12_158 rfl (c_X12_isWord G m h0 S a b s v f o L 97 110 100 0 0 0 3 (by decide) hab hb) (by decide) (Nat.le_of_ble_eq_true rfl) (fun x217 S217 Q217 => ?_)
                      obtain ⟨rfl, e217⟩ := Q217
                      obtain rfl := e217.symm
                      refine px_if_eq (tgt := 226) dX12_wordNow_220 (by decide) (fun H220 => ?_) (fun H220 => ?_)
                      · skip
                        refine px_aload_n dX12_wordNow_226 rfl rfl ?_
                        refine px_bipush (v := 110) dX12_wordNow_227 (by decide) ?_
                        refine px_bipush (v := 111) dX12_wordNow_229 (by decide) ?_
                        refine px_bipush (v := 116) dX12_wordNow_231 (by decide) ?_
                        refine px_iconst (v := 0) dX12_wordNow_233 (by decide) ?_
                        refine px_iconst (v := 0) dX12_wordNow_234 (by decide) ?_
                        refine px_iconst (v := 0) dX12_wordNow_235 (by decide) ?_
                        refine px_iconst (v := 3) dX12_wordNow_236 (by decide) ?_
                        refine mx_callI7 dX12_wordNow_237 lX12_158 rfl (c_X12_isWord G m h0 S a b s v f o L 110 111 116 0 0 0 3 (by decide) hab hb) (by decide) (Nat.le_of_ble_eq_true rfl) (fun x237 S237 Q237 => ?_)
                        obtain ⟨rfl, e237⟩ := Q237
                        obtain rfl := e237.symm
                        refine px_if_eq (tgt := 248) dX12_wordNow_240 (by decide) (fun H240 => ?_) (fun H240 => ?_)
                        · skip
                          refine px_iconst (v := (-1)) dX12_wordNow_248 (by decide) ?_
                          refine px_iretI dX12_wordNow_249 rfl ?_
                          exact ⟨by simp [wN, *], rfl⟩
                        · skip
                          refine px_bipush (v := 15) dX12_wordNow_243 (by decide) ?_
                          refine px_goto (tgt := 249) dX12_wordNow_245 (by decide) ?_
                          refine px_iretI dX12_wordNow_249 rfl ?_
                          exact ⟨by simp [wN, *], rfl⟩
                      · skip
                        refine px_bipush (v := 14) dX12_wordNow_223 (by decide) ?_
                        refine px_iretI dX12_wordNow_225 rfl ?_
                        exact ⟨by simp [wN, *], rfl⟩
                    · skip
                      refine px_bipush (v := 13) dX12_wordNow_203 (by decide) ?_
                      refine px_iretI dX12_wordNow_205 rfl ?_
                      exact ⟨by simp [wN, *], rfl⟩
                  · skip
                    refine px_bipush (v := 12) dX12_wordNow_184 (by decide) ?_
                    refine px_iretI dX12_wordNow_186 rfl ?_
                    exact ⟨by simp [wN, *], rfl⟩
                · skip
                  refine px_bipush (v := 11) dX12_wordNow_163 (by decide) ?_
                  refine px_iretI dX12_wordNow_165 rfl ?_
                  exact ⟨by simp [wN, *], rfl⟩
              · skip
                refine px_bipush (v := 10) dX12_wordNow_142 (by decide) ?_
                refine px_iretI dX12_wordNow_144 rfl ?_
                exact ⟨by simp [wN, *], rfl⟩
            · skip
              refine px_iconst (v := 5) dX12_wordNow_122 (by decide) ?_
              refine px_iretI dX12_wordNow_123 rfl ?_
              exact ⟨by simp [wN, *], rfl⟩
          · skip
            refine px_iconst (v := 4) dX12_wordNow_103 (by decide) ?_
            refine px_iretI dX12_wordNow_104 rfl ?_
            exact ⟨by simp [wN, *], rfl⟩
        · skip
          refine px_iconst (v := 3) dX12_wordNow_82 (by decide) ?_
          refine px_iretI dX12_wordNow_83 rfl ?_
          exact ⟨by simp [wN, *], rfl⟩
      · skip
        refine px_iconst (v := 2) dX12_wordNow_62 (by decide) ?_
        refine px_iretI dX12_wordNow_63 rfl ?_
        exact ⟨by simp [wN, *], rfl⟩
    · skip
      refine px_iconst (v := 1) dX12_wordNow_42 (by decide) ?_
      refine px_iretI dX12_wordNow_43 rfl ?_
      exact ⟨by simp [wN, *], rfl⟩
  · skip
    refine px_iconst (v := 0) dX12_wordNow_21 (by decide) ?_
    refine px_iretI dX12_wordNow_22 rfl ?_
    exact ⟨by simp [wN, *], rfl⟩
theorem wN_ge (tp : Nat → Int32) (a b : Nat) : wN tp a b = -1 ∨ ∃ j, j < 16 ∧ wN tp a b = nI j ∧ (j < 6 ∨ 10 ≤ j) ∧ a < b := by
  have hk : ∀ {c1 c2 c3 c4 c5 c6 : Int32} {n : Nat}, 1 ≤ n → ¬ bI (isWb tp a b c1 c2 c3 c4 c5 c6 n) = 0 → a < b := by
    intro c1 c2 c3 c4 c5 c6 n hn h
    rw [bI_0, Decidable.not_not] at h
    have := (decide_eq_true_iff.mp h).1
    omega
  unfold wN
  by_cases h0 : bI (isWb tp a b 111 117 110 99 101 115 6) = 0
  case neg => rw [if_neg h0]; exact Or.inr ⟨0, by decide, rfl, by decide, hk (by decide) h0⟩
  rw [if_pos h0]
  by_cases h1 : bI (isWb tp a b 97 112 97 114 116 0 5) = 0
  case neg => rw [if_neg h1]; exact Or.inr ⟨1, by decide, rfl, by decide, hk (by decide) h1⟩
  rw [if_pos h1]
  by_cases h2 : bI (isWb tp a b 115 105 122 101 0 0 4) = 0
  case neg => rw [if_neg h2]; exact Or.inr ⟨2, by decide, rfl, by decide, hk (by decide) h2⟩
  rw [if_pos h2]
  by_cases h3 : bI (isWb tp a b 119 111 114 110 0 0 4) = 0
  case neg => rw [if_neg h3]; exact Or.inr ⟨3, by decide, rfl, by decide, hk (by decide) h3⟩
  rw [if_pos h3]
  by_cases h4 : bI (isWb tp a b 102 97 100 101 100 0 5) = 0
  case neg => rw [if_neg h4]; exact Or.inr ⟨4, by decide, rfl, by decide, hk (by decide) h4⟩
  rw [if_pos h4]
  by_cases h5 : bI (isWb tp a b 118 97 116 0 0 0 3) = 0
  case neg => rw [if_neg h5]; exact Or.inr ⟨5, by decide, rfl, by decide, hk (by decide) h5⟩
  rw [if_pos h5]
  by_cases h10 : bI (isWb tp a b 98 101 97 114 0 0 4) = 0
  case neg => rw [if_neg h10]; exact Or.inr ⟨10, by decide, rfl, by decide, hk (by decide) h10⟩
  rw [if_pos h10]
  by_cases h11 : bI (isWb tp a b 115 101 101 110 0 0 4) = 0
  case neg => rw [if_neg h11]; exact Or.inr ⟨11, by decide, rfl, by decide, hk (by decide) h11⟩
  rw [if_pos h11]
  by_cases h12 : bI (isWb tp a b 107 101 101 112 0 0 4) = 0
  case neg => rw [if_neg h12]; exact Or.inr ⟨12, by decide, rfl, by decide, hk (by decide) h12⟩
  rw [if_pos h12]
  by_cases h13 : bI (isWb tp a b 111 114 0 0 0 0 2) = 0
  case neg => rw [if_neg h13]; exact Or.inr ⟨13, by decide, rfl, by decide, hk (by decide) h13⟩
  rw [if_pos h13]
  by_cases h14 : bI (isWb tp a b 97 110 100 0 0 0 3) = 0
  case neg => rw [if_neg h14]; exact Or.inr ⟨14, by decide, rfl, by decide, hk (by decide) h14⟩
  rw [if_pos h14]
  by_cases h15 : bI (isWb tp a b 110 111 116 0 0 0 3) = 0
  case neg => rw [if_neg h15]; exact Or.inr ⟨15, by decide, rfl, by decide, hk (by decide) h15⟩
  rw [if_pos h15]
  exact Or.inl rfl
/-- the number of the first digits -/
def nv (tp : Nat → Int32) (a : Nat) : Nat → Int32
  | 0 => 0
  | k + 1 => if k < 4 then 10 * nv tp a k + tp (a + k) - 48 else nv tp a k
def isSg (x : Int32) : Bool := decide (x = 40 ∨ x = 41 ∨ x = 59 ∨ x = 43 ∨ x = 45 ∨ x = 42 ∨ x = 60 ∨ x = 61)
/-- the next token from place b on: where it begins, where it ends, its sort, what it is -/
def lxA (tp : Nat → Int32) (t b : Nat) : Nat := rn (blk tp) t b
def lxB (tp : Nat → Int32) (t b : Nat) : Nat := if lxA tp t b < t then (if ltr tp (lxA tp t b) = true then rn (ltr tp) t (lxA tp t b) else if dgt tp (lxA tp t b) = true then rn (dgt tp) t (lxA tp t b) else lxA tp t b + 1) else lxA tp t b
def lxV (tp : Nat → Int32) (t b : Nat) (v0 : Int32) : Int32 := if lxA tp t b < t then (if ltr tp (lxA tp t b) = true then wN tp (lxA tp t b) (rn (ltr tp) t (lxA tp t b)) else if dgt tp (lxA tp t b) = true then nv tp (lxA tp t b) (rn (dgt tp) t (lxA tp t b) - lxA tp t b) else tp (lxA tp t b)) else v0
def lxS (tp : Nat → Int32) (t b : Nat) : Nat := if lxA tp t b < t then (if ltr tp (lxA tp t b) = true then (if wN tp (lxA tp t b) (rn (ltr tp) t (lxA tp t b)) < 0 then 5 else 1) else if dgt tp (lxA tp t b) = true then (if 4 < rn (dgt tp) t (lxA tp t b) - lxA tp t b then 5 else 2) else if isSg (tp (lxA tp t b)) = true then 3 else 5) else 4
set_option maxHeartbeats 4000000 in
set_option maxRecDepth 100000 in
theorem lp_nx1 (G : Gt) (m : Nat) (h0 : Ht) (S : MS) (b s : Nat) (f : Int32) (o : Nat) (L : List (Int32 × Int32)) (t b0 : Nat) (v0 : Int32) (hT : S 15 0 = nI t) (ht : t ≤ 160) (hb : b0 ≤ t) (K : ∀ a, a ≤ t → lxA (S 14) t b0 = a → PX G (MPic G m h0) 3 Y12_next 60 [some (.ref m), none] [] (lay S a b s v0 f o L) 0 0 (rv (fun S' => S' = lay S (lxA (S 14) t b0) (lxB (S 14) t b0) (lxS (S 14) t b0) (lxV (S 14) t b0 v0) f o L))) : ∀ (kk a : Nat), a ≤ t → rn (blk (S 14)) t a = lxA (S 14) t b0 → t + 1 ≤ a + kk → PX G (MPic G m h0) 3 Y12_next 8 [some (.ref m), none] [] (lay S a b s v0 f o L) 0 0 (rv (fun S' => S' = lay S (lxA (S 14) t b0) (lxB (S 14) t b0) (lxS (S 14) t b0) (lxV (S 14) t b0 v0) f o L)) := by
  intro kk
  induction kk with
  | zero => intro a h1 h2 h3; omega
  | succ kk ih =>
    intro a hi hr hk
    refine px_aload_n dX12_next_8 rfl rfl ?_
    refine mx_getI (k := 24) dX12_next_9 gX12_155 (fun _ => rfl) ?_
    refine px_aload_n dX12_next_12 rfl rfl ?_
    refine mx_getI (k := 15) dX12_next_13 gX12_149 (fun _ => rfl) ?_
    refine px_icmp_ge (tgt := 60) dX12_next_16 (by decide) (fun H16 => ?_) (fun H16 => ?_)
    · skip
      rw [g24, g15, hT] at H16
      have e5 := ge_n (by omega) (by omega) H16
      exact K a hi (by rw [← hr, rn_end e5])
    · skip
      rw [g24, g15, hT] at H16
      have l5 : a < t := lt_n (by omega) (by omega) H16
      refine px_aload_n dX12_next_19 rfl rfl ?_
      refine mx_getA (k := 14) (j := 11) dX12_next_20 gX12_44 (fun _ => rfl) ?_
      refine px_aload_n dX12_next_23 rfl rfl ?_
      refine mx_getI (k := 24) dX12_next_24 gX12_155 (fun _ => rfl) ?_
      refine mx_bald (j := 11) (k := 14) (a) dX12_next_27 rfl rfl (by omega) (by decide) ?_
      refine px_bipush (v := 32) dX12_next_28 (by decide) ?_
      refine px_icmp_eq (tgt := 47) dX12_next_30 (by decide) (fun H30 => ?_) (fun H30 => ?_)
      · skip
        rw [g14] at H30
        refine px_aload_n dX12_next_47 rfl rfl ?_
        refine px_dup dX12_next_48 rfl ?_
        refine mx_getI (k := 24) dX12_next_49 gX12_155 (fun _ => rfl) ?_
        refine px_iconst (v := 1) dX12_next_52 (by decide) ?_
        refine px_iadd dX12_next_53 ?_
        refine mx_putI (k := 24) dX12_next_54 gX12_155 (by decide) rfl rfl ?_
        refine px_S (S' := lay S (a + 1) b s v0 f o L) (by rw [g24, nI_1]; exact lay_a) ?_
        refine px_goto (tgt := 8) dX12_next_57 (by decide) ?_
        refine ih (a + 1) (by omega) ?_ (by omega)
        rw [← hr]
        refine (rn_go l5 ?_).symm
        simp [blk, *]
      · skip
        rw [g14] at H30
        refine px_aload_n dX12_next_33 rfl rfl ?_
        refine mx_getA (k := 14) (j := 11) dX12_next_34 gX12_44 (fun _ => rfl) ?_
        refine px_aload_n dX12_next_37 rfl rfl ?_
        refine mx_getI (k := 24) dX12_next_38 gX12_155 (fun _ => rfl) ?_
        refine mx_bald (j := 11) (k := 14) (a) dX12_next_41 rfl rfl (by omega) (by decide) ?_
        refine px_bipush (v := 10) dX12_next_42 (by decide) ?_
        refine px_icmp_ne (tgt := 60) dX12_next_44 (by decide) (fun H44 => ?_) (fun H44 => ?_)
        · skip
          rw [g14] at H44
          exact K a hi (by rw [← hr, rn_no (by simp [blk, H30, H44])])
        · skip
          rw [g14] at H44
          refine px_aload_n dX12_next_47 rfl rfl ?_
          refine px_dup dX12_next_48 rfl ?_
          refine mx_getI (k := 24) dX12_next_49 gX12_155 (fun _ => rfl) ?_
          refine px_iconst (v := 1) dX12_next_52 (by decide) ?_
          refine px_iadd dX12_next_53 ?_
          refine mx_putI (k := 24) dX12_next_54 gX12_155 (by decide) rfl rfl ?_
          refine px_S (S' := lay S (a + 1) b s v0 f o L) (by rw [g24, nI_1]; exact lay_a) ?_
          refine px_goto (tgt := 8) dX12_next_57 (by decide) ?_
          refine ih (a + 1) (by omega) ?_ (by omega)
          rw [← hr]
          refine (rn_go l5 ?_).symm
          simp [blk, *]
set_option maxHeartbeats 4000000 in
set_option maxRecDepth 100000 in
theorem lp_nx2 (G : Gt) (m : Nat) (h0 : Ht) (S : MS) (a s : Nat) (f : Int32) (o : Nat) (L : List (Int32 × Int32)) (t b0 : Nat) (v0 : Int32) (hT : S 15 0 = nI t) (ht : t ≤ 160) (hb : b0 ≤ t) (x1 : Int32) (hE : lxA (S 14) t b0 = a) (hat : a < t) (hl : ltr (S 14) a = true) (K : ∀ b, b ≤ t → a ≤ b → rn (ltr (S 14)) t a = b → PX G (MPic G m h0) 3 Y12_next 149 [some (.ref m), some (.int x1)] [] (lay S a b s v0 f o L) 0 0 (rv (fun S' => S' = lay S (lxA (S 14) t b0) (lxB (S 14) t b0) (lxS (S 14) t b0) (lxV (S 14) t b0 v0) f o L))) : ∀ (kk b : Nat), b ≤ t → a ≤ b → rn (ltr (S 14)) t b = rn (ltr (S 14)) t a → t + 1 ≤ b + kk → PX G (MPic G m h0) 3 Y12_next 110 [some (.ref m), some (.int x1)] [] (lay S a b s v0 f o L) 0 0 (rv (fun S' => S' = lay S (lxA (S 14) t b0) (lxB (S 14) t b0) (lxS (S 14) t b0) (lxV (S 14) t b0 v0) f o L)) := by
  intro kk
  induction kk with
  | zero => intro a h1 h2 h3; omega
  | succ kk ih =>
    intro b hi hab hr hk
    refine px_aload_n dX12_next_110 rfl rfl ?_
    refine mx_getI (k := 25) dX12_next_111 gX12_152 (fun _ => rfl) ?_
    refine px_aload_n dX12_next_114 rfl rfl ?_
    refine mx_getI (k := 15) dX12_next_115 gX12_149 (fun _ => rfl) ?_
    refine px_icmp_ge (tgt := 149) dX12_next_118 (by decide) (fun H118 => ?_) (fun H118 => ?_)
    · skip
      rw [g25, g15, hT] at H118
      have e5 := ge_n (by omega) (by omega) H118
      exact K b hi hab (by rw [← hr, rn_end e5])
    · skip
      rw [g25, g15, hT] at H118
      have l5 : b < t := lt_n (by omega) (by omega) H118
      refine px_aload_n dX12_next_121 rfl rfl ?_
      refine mx_getA (k := 14) (j := 11) dX12_next_122 gX12_44 (fun _ => rfl) ?_
      refine px_aload_n dX12_next_125 rfl rfl ?_
      refine mx_getI (k := 25) dX12_next_126 gX12_152 (fun _ => rfl) ?_
      refine mx_bald (j := 11) (k := 14) (b) dX12_next_129 rfl rfl (by omega) (by decide) ?_
      refine px_pure1 dX12_next_130 lX12_165 (c_X12_isLetter G _) (by decide) (Nat.le_of_ble_eq_true rfl) ?_
      refine px_if_eq (tgt := 149) dX12_next_133 (by decide) (fun H133 => ?_) (fun H133 => ?_)
      · skip
        rw [g14] at H133
        exact K b hi hab (by rw [← hr, rn_no (by simp [ltr, H133])])
      · skip
        rw [g14] at H133
        refine px_aload_n dX12_next_136 rfl rfl ?_
        refine px_dup dX12_next_137 rfl ?_
        refine mx_getI (k := 25) dX12_next_138 gX12_152 (fun _ => rfl) ?_
        refine px_iconst (v := 1) dX12_next_141 (by decide) ?_
        refine px_iadd dX12_next_142 ?_
        refine mx_putI (k := 25) dX12_next_143 gX12_152 (by decide) rfl rfl ?_
        refine px_S (S' := lay S a (b + 1) s v0 f o L) (by rw [g25, nI_1]; exact lay_b) ?_
        refine px_goto (tgt := 110) dX12_next_146 (by decide) ?_
        refine ih (b + 1) (by omega) (by omega) ?_ (by omega)
        rw [← hr]
        exact (rn_go l5 (by simp [ltr, H133])).symm
theorem nv_4 {tp : Nat → Int32} {a k : Nat} (h : ¬ k < 4) : nv tp a (k + 1) = nv tp a k := by rw [nv, if_neg h]
theorem nv_1 {tp : Nat → Int32} {a k : Nat} (h : k < 4) : nv tp a (k + 1) = 10 * nv tp a k + tp (a + k) - 48 := by rw [nv, if_pos h]
set_option maxHeartbeats 4000000 in
set_option maxRecDepth 100000 in
theorem lp_nx3 (G : Gt) (m : Nat) (h0 : Ht) (S : MS) (a s : Nat) (f : Int32) (o : Nat) (L : List (Int32 × Int32)) (t b0 : Nat) (v0 : Int32) (hT : S 15 0 = nI t) (ht : t ≤ 160) (hb : b0 ≤ t) (x1 : Int32) (hE : lxA (S 14) t b0 = a) (hat : a < t) (hl : dgt (S 14) a = true) (K : ∀ b, b ≤ t → a ≤ b → rn (dgt (S 14)) t a = b → PX G (MPic G m h0) 3 Y12_next 264 [some (.ref m), some (.int x1)] [] (lay S a b s (nv (S 14) a (b - a)) f o L) 0 0 (rv (fun S' => S' = lay S (lxA (S 14) t b0) (lxB (S 14) t b0) (lxS (S 14) t b0) (lxV (S 14) t b0 v0) f o L))) : ∀ (kk b : Nat), b ≤ t → a ≤ b → rn (dgt (S 14)) t b = rn (dgt (S 14)) t a → t + 1 ≤ b + kk → PX G (MPic G m h0) 3 Y12_next 188 [some (.ref m), some (.int x1)] [] (lay S a b s (nv (S 14) a (b - a)) f o L) 0 0 (rv (fun S' => S' = lay S (lxA (S 14) t b0) (lxB (S 14) t b0) (lxS (S 14) t b0) (lxV (S 14) t b0 v0) f o L)) := by
  intro kk
  induction kk with
  | zero => intro a h1 h2 h3; omega
  | succ kk ih =>
    intro b hi hab hr hk
    refine px_aload_n dX12_next_188 rfl rfl ?_
    refine mx_getI (k := 25) dX12_next_189 gX12_152 (fun _ => rfl) ?_
    refine px_aload_n dX12_next_192 rfl rfl ?_
    refine mx_getI (k := 15) dX12_next_193 gX12_149 (fun _ => rfl) ?_
    refine px_icmp_ge (tgt := 264) dX12_next_196 (by decide) (fun H196 => ?_) (fun H196 => ?_)
    · skip
      rw [g25, g15, hT] at H196
      have e5 := ge_n (by omega) (by omega) H196
      exact K b hi hab (by rw [← hr, rn_end e5])
    · skip
      rw [g25, g15, hT] at H196
      have l5 : b < t := lt_n (by omega) (by omega) H196
      refine px_aload_n dX12_next_199 rfl rfl ?_
      refine mx_getA (k := 14) (j := 11) dX12_next_200 gX12_44 (fun _ => rfl) ?_
      refine px_aload_n dX12_next_203 rfl rfl ?_
      refine mx_getI (k := 25) dX12_next_204 gX12_152 (fun _ => rfl) ?_
      refine mx_bald (j := 11) (k := 14) (b) dX12_next_207 rfl rfl (by omega) (by decide) ?_
      refine px_pure1 dX12_next_208 lX12_175 (c_X12_isDigit G _) (by decide) (Nat.le_of_ble_eq_true rfl) ?_
      refine px_if_eq (tgt := 264) dX12_next_211 (by decide) (fun H211 => ?_) (fun H211 => ?_)
      · skip
        rw [g14] at H211
        exact K b hi hab (by rw [← hr, rn_no (by simp [dgt, H211])])
      · skip
        rw [g14] at H211
        refine px_aload_n dX12_next_214 rfl rfl ?_
        refine mx_getI (k := 25) dX12_next_215 gX12_152 (fun _ => rfl) ?_
        refine px_aload_n dX12_next_218 rfl rfl ?_
        refine mx_getI (k := 24) dX12_next_219 gX12_155 (fun _ => rfl) ?_
        refine px_isub dX12_next_222 ?_
        refine px_iconst (v := 4) dX12_next_223 (by decide) ?_
        refine px_icmp_ge (tgt := 251) dX12_next_224 (by decide) (fun H224 => ?_) (fun H224 => ?_)
        · skip
          rw [g25, g24, pk_sub hab] at H224
          have q5 : ¬ b - a < 4 := by have := ge_n (a := b - a) (b := 4) (by omega) (by omega) H224; omega
          have n5 := nv_4 (tp := S 14) (a := a) q5
          refine px_aload_n dX12_next_251 rfl rfl ?_
          refine px_dup dX12_next_252 rfl ?_
          refine mx_getI (k := 25) dX12_next_253 gX12_152 (fun _ => rfl) ?_
          refine px_iconst (v := 1) dX12_next_256 (by decide) ?_
          refine px_iadd dX12_next_257 ?_
          refine mx_putI (k := 25) dX12_next_258 gX12_152 (by decide) rfl rfl ?_
          refine px_S (S' := lay S a (b + 1) s (nv (S 14) a (b + 1 - a)) f o L) (by rw [g25, nI_1, show b + 1 - a = b - a + 1 by omega]; first | exact lay_b | (rw [n5]; exact lay_b)) ?_
          refine px_goto (tgt := 188) dX12_next_261 (by decide) ?_
          refine ih (b + 1) (by omega) (by omega) ?_ (by omega)
          rw [← hr]
          exact (rn_go l5 (by simp [dgt, H211])).symm
        · skip
          rw [g25, g24, pk_sub hab] at H224
          have q5 : b - a < 4 := lt_n (a := b - a) (b := 4) (by omega) (by omega) H224
          have n5 := nv_1 (tp := S 14) (a := a) q5
          rw [show a + (b - a) = b by omega] at n5
          refine px_aload_n dX12_next_227 rfl rfl ?_
          refine px_bipush (v := 10) dX12_next_228 (by decide) ?_
          refine px_aload_n dX12_next_230 rfl rfl ?_
          refine mx_getI (k := 27) dX12_next_231 gX12_172 (fun _ => rfl) ?_
          refine px_imul dX12_next_234 ?_
          refine px_aload_n dX12_next_235 rfl rfl ?_
          refine mx_getA (k := 14) (j := 11) dX12_next_236 gX12_44 (fun _ => rfl) ?_
          refine px_aload_n dX12_next_239 rfl rfl ?_
          refine mx_getI (k := 25) dX12_next_240 gX12_152 (fun _ => rfl) ?_
          refine mx_bald (j := 11) (k := 14) (b) dX12_next_243 rfl rfl (by omega) (by decide) ?_
          refine px_iadd dX12_next_244 ?_
          refine px_bipush (v := 48) dX12_next_245 (by decide) ?_
          refine px_isub dX12_next_247 ?_
          refine mx_putI (k := 27) dX12_next_248 gX12_172 (by decide) rfl rfl ?_
          refine px_S (S' := lay S a b s (nv (S 14) a (b - a + 1)) f o L) (by rw [n5]; exact lay_v) ?_
          refine px_aload_n dX12_next_251 rfl rfl ?_
          refine px_dup dX12_next_252 rfl ?_
          refine mx_getI (k := 25) dX12_next_253 gX12_152 (fun _ => rfl) ?_
          refine px_iconst (v := 1) dX12_next_256 (by decide) ?_
          refine px_iadd dX12_next_257 ?_
          refine mx_putI (k := 25) dX12_next_258 gX12_152 (by decide) rfl rfl ?_
          refine px_S (S' := lay S a (b + 1) s (nv (S 14) a (b + 1 - a)) f o L) (by rw [g25, nI_1, show b + 1 - a = b - a + 1 by omega]; first | exact lay_b | (rw [n5]; exact lay_b)) ?_
          refine px_goto (tgt := 188) dX12_next_261 (by decide) ?_
          refine ih (b + 1) (by omega) (by omega) ?_ (by omega)
          rw [← hr]
          exact (rn_go l5 (by simp [dgt, H211])).symm
theorem lay_cg {S : MS} {a b s a' b' s' : Nat} {v f v' : Int32} {o : Nat} {L : List (Int32 × Int32)} (h1 : a = a') (h2 : b = b') (h3 : s = s') (h4 : v = v') : lay S a b s v f o L = lay S a' b' s' v' f o L := by subst h1; subst h2; subst h3; subst h4; rfl
set_option maxHeartbeats 4000000 in
set_option maxRecDepth 100000 in
theorem c_X12_next (G : Gt) (m : Nat) (h0 : Ht) (S : MS) (a0 s : Nat) (f : Int32) (o : Nat) (L : List (Int32 × Int32)) (t b0 : Nat) (v0 : Int32) (hT : S 15 0 = nI t) (ht : t ≤ 160) (hb : b0 ≤ t) : PC G (MPic G m h0) 3 Y12_next [.ref m] (lay S a0 b0 s v0 f o L) 0 0 (rv (fun S' => S' = lay S (lxA (S 14) t b0) (lxB (S 14) t b0) (lxS (S 14) t b0) (lxV (S 14) t b0 v0) f o L)) := by
  refine pc_of (ls := [some (.ref m), none]) (by decide +kernel) rfl (Nat.le_of_ble_eq_true rfl) ?_
  refine px_aload_n dX12_next_0 rfl rfl ?_
  refine px_aload_n dX12_next_1 rfl rfl ?_
  refine mx_getI (k := 25) dX12_next_2 gX12_152 (fun _ => rfl) ?_
  refine mx_putI (k := 24) dX12_next_5 gX12_155 (by decide) rfl rfl ?_
  refine px_S (S' := lay S b0 b0 s v0 f o L) lay_a ?_
  refine lp_nx1 G m h0 S b0 s f o L t b0 v0 hT ht hb (fun a hat hE => ?_) (t + 1) b0 hb rfl (by omega)
  refine px_aload_n dX12_next_60 rfl rfl ?_
  refine px_aload_n dX12_next_61 rfl rfl ?_
  refine mx_getI (k := 24) dX12_next_62 gX12_155 (fun _ => rfl) ?_
  refine mx_putI (k := 25) dX12_next_65 gX12_152 (by decide) rfl rfl ?_
  refine px_S (S' := lay S a a s v0 f o L) lay_b ?_
  refine px_aload_n dX12_next_68 rfl rfl ?_
  refine mx_getI (k := 24) dX12_next_69 gX12_155 (fun _ => rfl) ?_
  refine px_aload_n dX12_next_72 rfl rfl ?_
  refine mx_getI (k := 15) dX12_next_73 gX12_149 (fun _ => rfl) ?_
  refine px_icmp_lt (tgt := 93) dX12_next_76 (by decide) (fun H76 => ?_) (fun H76 => ?_)
  · skip
    rw [g24, g15, hT] at H76
    have l5 : a < t := lt_n (by omega) (by omega) H76
    refine px_aload_n dX12_next_93 rfl rfl ?_
    refine mx_getA (k := 14) (j := 11) dX12_next_94 gX12_44 (fun _ => rfl) ?_
    refine px_aload_n dX12_next_97 rfl rfl ?_
    refine mx_getI (k := 24) dX12_next_98 gX12_155 (fun _ => rfl) ?_
    refine mx_bald (j := 11) (k := 14) (a) dX12_next_101 rfl rfl (by omega) (by decide) ?_
    refine px_top (y := S 14 a) rfl ?_
    refine px_istore_n1 dX12_next_102 (by decide) rfl ?_
    refine px_iload_n dX12_next_103 rfl rfl ?_
    refine px_pure1 dX12_next_104 lX12_165 (c_X12_isLetter G _) (by decide) (Nat.le_of_ble_eq_true rfl) ?_
    refine px_if_eq (tgt := 176) dX12_next_107 (by decide) (fun H107 => ?_) (fun H107 => ?_)
    · skip
      have hl : ¬ ltr (S 14) a = true := by simp [ltr, H107]
      refine px_iload_n dX12_next_176 rfl rfl ?_
      refine px_pure1 dX12_next_177 lX12_175 (c_X12_isDigit G _) (by decide) (Nat.le_of_ble_eq_true rfl) ?_
      refine px_if_eq (tgt := 289) dX12_next_180 (by decide) (fun H180 => ?_) (fun H180 => ?_)
      · skip
        have hd : ¬ dgt (S 14) a = true := by simp [dgt, H180]
        refine px_aload_n dX12_next_289 rfl rfl ?_
        refine px_dup dX12_next_290 rfl ?_
        refine mx_getI (k := 25) dX12_next_291 gX12_152 (fun _ => rfl) ?_
        refine px_iconst (v := 1) dX12_next_294 (by decide) ?_
        refine px_iadd dX12_next_295 ?_
        refine mx_putI (k := 25) dX12_next_296 gX12_152 (by decide) rfl rfl ?_
        refine px_S (S' := lay S a (a + 1) s v0 f o L) (by rw [g25, nI_1]; exact lay_b) ?_
        refine px_aload_n dX12_next_299 rfl rfl ?_
        refine px_iload_n dX12_next_300 rfl rfl ?_
        refine mx_putI (k := 27) dX12_next_301 gX12_172 (by decide) rfl rfl ?_
        refine px_S (S' := lay S a (a + 1) s (S 14 a) f o L) lay_v ?_
        refine px_aload_n dX12_next_304 rfl rfl ?_
        refine px_iload_n dX12_next_305 rfl rfl ?_
        refine px_bipush (v := 40) dX12_next_306 (by decide) ?_
        refine px_icmp_eq (tgt := 353) dX12_next_308 (by decide) (fun H308 => ?_) (fun H308 => ?_)
        · skip
          refine px_iconst (v := 3) dX12_next_353 (by decide) ?_
          refine px_goto (tgt := 358) dX12_next_354 (by decide) ?_
          refine mx_putI (k := 26) dX12_next_358 gX12_162 (by decide) rfl rfl ?_
          first | refine px_S (S' := lay S a (a + 1) 5 (S 14 a) f o L) lay_s ?_ | refine px_S (S' := lay S a (a + 1) 3 (S 14 a) f o L) lay_s ?_
          refine px_return dX12_next_361 rfl ?_
          subst hE
          refine lay_cg rfl ?_ ?_ ?_
          · simp [lxB, *]
          · simp [lxS, isSg, *]
          · simp [lxV, *]
        · skip
          refine px_iload_n dX12_next_311 rfl rfl ?_
          refine px_bipush (v := 41) dX12_next_312 (by decide) ?_
          refine px_icmp_eq (tgt := 353) dX12_next_314 (by decide) (fun H314 => ?_) (fun H314 => ?_)
          · skip
            refine px_iconst (v := 3) dX12_next_353 (by decide) ?_
            refine px_goto (tgt := 358) dX12_next_354 (by decide) ?_
            refine mx_putI (k := 26) dX12_next_358 gX12_162 (by decide) rfl rfl ?_
            first | refine px_S (S' := lay S a (a + 1) 5 (S 14 a) f o L) lay_s ?_ | refine px_S (S' := lay S a (a + 1) 3 (S 14 a) f o L) lay_s ?_
            refine px_return dX12_next_361 rfl ?_
            subst hE
            refine lay_cg rfl ?_ ?_ ?_
            · simp [lxB, *]
            · simp [lxS, isSg, *]
            · simp [lxV, *]
          · skip
            refine px_iload_n dX12_next_317 rfl rfl ?_
            refine px_bipush (v := 59) dX12_next_318 (by decide) ?_
            refine px_icmp_eq (tgt := 353) dX12_next_320 (by decide) (fun H320 => ?_) (fun H320 => ?_)
            · skip
              refine px_iconst (v := 3) dX12_next_353 (by decide) ?_
              refine px_goto (tgt := 358) dX12_next_354 (by decide) ?_
              refine mx_putI (k := 26) dX12_next_358 gX12_162 (by decide) rfl rfl ?_
              first | refine px_S (S' := lay S a (a + 1) 5 (S 14 a) f o L) lay_s ?_ | refine px_S (S' := lay S a (a + 1) 3 (S 14 a) f o L) lay_s ?_
              refine px_return dX12_next_361 rfl ?_
              subst hE
              refine lay_cg rfl ?_ ?_ ?_
              · simp [lxB, *]
              · simp [lxS, isSg, *]
              · simp [lxV, *]
            · skip
              refine px_iload_n dX12_next_323 rfl rfl ?_
              refine px_bipush (v := 43) dX12_next_324 (by decide) ?_
              refine px_icmp_eq (tgt := 353) dX12_next_326 (by decide) (fun H326 => ?_) (fun H326 => ?_)
              · skip
                refine px_iconst (v := 3) dX12_next_353 (by decide) ?_
                refine px_goto (tgt := 358) dX12_next_354 (by decide) ?_
                refine mx_putI (k := 26) dX12_next_358 gX12_162 (by decide) rfl rfl ?_
                first | refine px_S (S' := lay S a (a + 1) 5 (S 14 a) f o L) lay_s ?_ | refine px_S (S' := lay S a (a + 1) 3 (S 14 a) f o L) lay_s ?_
                refine px_return dX12_next_361 rfl ?_
                subst hE
                refine lay_cg rfl ?_ ?_ ?_
                · simp [lxB, *]
                · simp [lxS, isSg, *]
                · simp [lxV, *]
              · skip
                refine px_iload_n dX12_next_329 rfl rfl ?_
                refine px_bipush (v := 45) dX12_next_330 (by decide) ?_
                refine px_icmp_eq (tgt := 353) dX12_next_332 (by decide) (fun H332 => ?_) (fun H332 => ?_)
                · skip
                  refine px_iconst (v := 3) dX12_next_353 (by decide) ?_
                  refine px_goto (tgt := 358) dX12_next_354 (by decide) ?_
                  refine mx_putI (k := 26) dX12_next_358 gX12_162 (by decide) rfl rfl ?_
                  first | refine px_S (S' := lay S a (a + 1) 5 (S 14 a) f o L) lay_s ?_ | refine px_S (S' := lay S a (a + 1) 3 (S 14 a) f o L) lay_s ?_
                  refine px_return dX12_next_361 rfl ?_
                  subst hE
                  refine lay_cg rfl ?_ ?_ ?_
                  · simp [lxB, *]
                  · simp [lxS, isSg, *]
                  · simp [lxV, *]
                · skip
                  refine px_iload_n dX12_next_335 rfl rfl ?_
                  refine px_bipush (v := 42) dX12_next_336 (by decide) ?_
                  refine px_icmp_eq (tgt := 353) dX12_next_338 (by decide) (fun H338 => ?_) (fun H338 => ?_)
                  · skip
                    refine px_iconst (v := 3) dX12_next_353 (by decide) ?_
                    refine px_goto (tgt := 358) dX12_next_354 (by decide) ?_
                    refine mx_putI (k := 26) dX12_next_358 gX12_162 (by decide) rfl rfl ?_
                    first | refine px_S (S' := lay S a (a + 1) 5 (S 14 a) f o L) lay_s ?_ | refine px_S (S' := lay S a (a + 1) 3 (S 14 a) f o L) lay_s ?_
                    refine px_return dX12_next_361 rfl ?_
                    subst hE
                    refine lay_cg rfl ?_ ?_ ?_
                    · simp [lxB, *]
                    · simp [lxS, isSg, *]
                    · simp [lxV, *]
                  · skip
                    refine px_iload_n dX12_next_341 rfl rfl ?_
                    refine px_bipush (v := 60) dX12_next_342 (by decide) ?_
                    refine px_icmp_eq (tgt := 353) dX12_next_344 (by decide) (fun H344 => ?_) (fun H344 => ?_)
                    · skip
                      refine px_iconst (v := 3) dX12_next_353 (by decide) ?_
                      refine px_goto (tgt := 358) dX12_next_354 (by decide) ?_
                      refine mx_putI (k := 26) dX12_next_358 gX12_162 (by decide) rfl rfl ?_
                      first | refine px_S (S' := lay S a (a + 1) 5 (S 14 a) f o L) lay_s ?_ | refine px_S (S' := lay S a (a + 1) 3 (S 14 a) f o L) lay_s ?_
                      refine px_return dX12_next_361 rfl ?_
                      subst hE
                      refine lay_cg rfl ?_ ?_ ?_
                      · simp [lxB, *]
                      · simp [lxS, isSg, *]
                      · simp [lxV, *]
                    · skip
                      refine px_iload_n dX12_next_347 rfl rfl ?_
                      refine px_bipush (v := 61) dX12_next_348 (by decide) ?_
                      refine px_icmp_ne (tgt := 357) dX12_next_350 (by decide) (fun H350 => ?_) (fun H350 => ?_)
                      · skip
                        refine px_iconst (v := 5) dX12_next_357 (by decide) ?_
                        refine mx_putI (k := 26) dX12_next_358 gX12_162 (by decide) rfl rfl ?_
                        first | refine px_S (S' := lay S a (a + 1) 5 (S 14 a) f o L) lay_s ?_ | refine px_S (S' := lay S a (a + 1) 3 (S 14 a) f o L) lay_s ?_
                        refine px_return dX12_next_361 rfl ?_
                        subst hE
                        refine lay_cg rfl ?_ ?_ ?_
                        · simp [lxB, *]
                        · simp [lxS, isSg, *]
                        · simp [lxV, *]
                      · skip
                        refine px_iconst (v := 3) dX12_next_353 (by decide) ?_
                        refine px_goto (tgt := 358) dX12_next_354 (by decide) ?_
                        refine mx_putI (k := 26) dX12_next_358 gX12_162 (by decide) rfl rfl ?_
                        first | refine px_S (S' := lay S a (a + 1) 5 (S 14 a) f o L) lay_s ?_ | refine px_S (S' := lay S a (a + 1) 3 (S 14 a) f o L) lay_s ?_
                        refine px_return dX12_next_361 rfl ?_
                        subst hE
                        refine lay_cg rfl ?_ ?_ ?_
                        · simp [lxB, *]
                        · simp [lxS, isSg, *]
                        · simp [lxV, *]
      · skip
        have hd : dgt (S 14) a = true := by simp [dgt, H180]
        refine px_aload_n dX12_next_183 rfl rfl ?_
        refine px_iconst (v := 0) dX12_next_184 (by decide) ?_
        refine mx_putI (k := 27) dX12_next_185 gX12_172 (by decide) rfl rfl ?_
        refine px_S (S' := lay S a a s (nv (S 14) a (a - a)) f o L) (by rw [Nat.sub_self]; exact lay_v) ?_
        refine lp_nx3 G m h0 S a s f o L t b0 v0 hT ht hb _ hE l5 hd (fun b hbt hab hr => ?_) (t + 1) a hat (Nat.le_refl _) rfl (by omega)
        refine px_aload_n dX12_next_264 rfl rfl ?_
        refine px_aload_n dX12_next_265 rfl rfl ?_
        refine mx_getI (k := 25) dX12_next_266 gX12_152 (fun _ => rfl) ?_
        refine px_aload_n dX12_next_269 rfl rfl ?_
        refine mx_getI (k := 24) dX12_next_270 gX12_155 (fun _ => rfl) ?_
        refine px_isub dX12_next_273 ?_
        refine px_iconst (v := 4) dX12_next_274 (by decide) ?_
        refine px_icmp_le (tgt := 282) dX12_next_275 (by decide) (fun H275 => ?_) (fun H275 => ?_)
        · skip
          rw [g25, g24, pk_sub hab] at H275
          have q5 : ¬ 4 < b - a := by have := ge_n (a := 4) (b := b - a) (by omega) (by omega) H275; omega
          refine px_iconst (v := 2) dX12_next_282 (by decide) ?_
          refine mx_putI (k := 26) dX12_next_283 gX12_162 (by decide) rfl rfl ?_
          first | refine px_S (S' := lay S a b 5 (nv (S 14) a (b - a)) f o L) lay_s ?_ | refine px_S (S' := lay S a b 2 (nv (S 14) a (b - a)) f o L) lay_s ?_
          refine px_goto (tgt := 361) dX12_next_286 (by decide) ?_
          refine px_return dX12_next_361 rfl ?_
          subst hE
          refine lay_cg rfl ?_ ?_ ?_
          · simp [lxB, *]
          · simp [lxS, isSg, *]
          · simp [lxV, *]
        · skip
          rw [g25, g24, pk_sub hab] at H275
          have q5 : 4 < b - a := lt_n (a := 4) (b := b - a) (by omega) (by omega) H275
          refine px_iconst (v := 5) dX12_next_278 (by decide) ?_
          refine px_goto (tgt := 283) dX12_next_279 (by decide) ?_
          refine mx_putI (k := 26) dX12_next_283 gX12_162 (by decide) rfl rfl ?_
          first | refine px_S (S' := lay S a b 5 (nv (S 14) a (b - a)) f o L) lay_s ?_ | refine px_S (S' := lay S a b 2 (nv (S 14) a (b - a)) f o L) lay_s ?_
          refine px_goto (tgt := 361) dX12_next_286 (by decide) ?_
          refine px_return dX12_next_361 rfl ?_
          subst hE
          refine lay_cg rfl ?_ ?_ ?_
          · simp [lxB, *]
          · simp [lxS, isSg, *]
          · simp [lxV, *]
    · skip
      have hl : ltr (S 14) a = true := by simp [ltr, H107]
      refine lp_nx2 G m h0 S a s f o L t b0 v0 hT ht hb _ hE l5 hl (fun b hbt hab hr => ?_) (t + 1) a hat (Nat.le_refl _) rfl (by omega)
      refine px_aload_n dX12_next_149 rfl rfl ?_
      refine px_aload_n dX12_next_150 rfl rfl ?_
      refine mx_callI0 dX12_next_151 lX12_168 rfl (c_X12_wordNow G m h0 S a b s v0 f o L hab (by omega)) (by decide) (Nat.le_of_ble_eq_true rfl) (fun x151 S151 Q151 => ?_)
      obtain ⟨rfl, e151⟩ := Q151
      obtain rfl := e151.symm
      refine mx_putI (k := 27) dX12_next_154 gX12_172 (by decide) rfl rfl ?_
      refine px_S (S' := lay S a b s (wN (S 14) a b) f o L) lay_v ?_
      refine px_aload_n dX12_next_157 rfl rfl ?_
      refine px_aload_n dX12_next_158 rfl rfl ?_
      refine mx_getI (k := 27) dX12_next_159 gX12_172 (fun _ => rfl) ?_
      refine px_if_ge (tgt := 169) dX12_next_162 (by decide) (fun H162 => ?_) (fun H162 => ?_)
      · skip
        rw [g27] at H162
        refine px_iconst (v := 1) dX12_next_169 (by decide) ?_
        refine mx_putI (k := 26) dX12_next_170 gX12_162 (by decide) rfl rfl ?_
        first | refine px_S (S' := lay S a b 5 (wN (S 14) a b) f o L) lay_s ?_ | refine px_S (S' := lay S a b 1 (wN (S 14) a b) f o L) lay_s ?_
        refine px_goto (tgt := 361) dX12_next_173 (by decide) ?_
        refine px_return dX12_next_361 rfl ?_
        subst hE
        refine lay_cg rfl ?_ ?_ ?_
        · simp [lxB, *]
        · simp [lxS, isSg, *]
        · simp [lxV, *]
      · skip
        rw [g27] at H162
        refine px_iconst (v := 5) dX12_next_165 (by decide) ?_
        refine px_goto (tgt := 170) dX12_next_166 (by decide) ?_
        refine mx_putI (k := 26) dX12_next_170 gX12_162 (by decide) rfl rfl ?_
        first | refine px_S (S' := lay S a b 5 (wN (S 14) a b) f o L) lay_s ?_ | refine px_S (S' := lay S a b 1 (wN (S 14) a b) f o L) lay_s ?_
        refine px_goto (tgt := 361) dX12_next_173 (by decide) ?_
        refine px_return dX12_next_361 rfl ?_
        subst hE
        refine lay_cg rfl ?_ ?_ ?_
        · simp [lxB, *]
        · simp [lxS, isSg, *]
        · simp [lxV, *]
  · skip
    rw [g24, g15, hT] at H76
    have e5 := ge_n (by omega) (by omega) H76
    have e6 : a = t := by omega
    refine px_aload_n dX12_next_79 rfl rfl ?_
    refine px_aload_n dX12_next_80 rfl rfl ?_
    refine mx_getI (k := 15) dX12_next_81 gX12_149 (fun _ => rfl) ?_
    refine mx_putI (k := 24) dX12_next_84 gX12_155 (by decide) rfl rfl ?_
    refine px_S (S' := lay S t a s v0 f o L) (by rw [g15, hT]; exact lay_a) ?_
    refine px_aload_n dX12_next_87 rfl rfl ?_
    refine px_iconst (v := 4) dX12_next_88 (by decide) ?_
    refine mx_putI (k := 26) dX12_next_89 gX12_162 (by decide) rfl rfl ?_
    refine px_S (S' := lay S t a 4 v0 f o L) lay_s ?_
    refine px_return dX12_next_92 rfl ?_
    refine lay_cg (by omega) (by simp [lxB, hE, e6]) (by simp [lxS, hE, e6]) (by simp [lxV, hE, e6])
