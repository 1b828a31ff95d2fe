set_option maxHeartbeats 1000000 in
set_option maxRecDepth 100000 in
theorem law_hank (G : Gt) (rm x i mc ms B : Nat) (Q : Qt) (S : MS) (h : Ht) (Post : Option Value → Ht → Prop) (hi : i + 6 ≤ gA G 8) (hL : gA G 8 ≤ 384) (hB9 : 99 ≤ B) (hB : B ≤ 39000) (hx : Q.1 0 0 = x) (hp : BP G rm Q S h) (hI : INV S Q.2.1 Q.2.2 B) (K : ∀ (Q' : Qt) (S' : MS) (h' : Ht), BP G rm Q' S' h' → Q'.1 0 0 = x → INV S' Q'.2.1 Q'.2.2 (B + 100) → AX G 60 YL 1104 [some (.ref (gA G 7)), some (.ref x), some (.ref rm), some (.int (nI i))] [] h' mc ms Post) : AX G 60 YL 160 [some (.ref (gA G 7)), some (.ref x), some (.ref rm), some (.int (nI i))] [] h (5 + mc) (333 + ms) Post := by
  obtain ⟨n, t, tp, kh, kc, kt, hCH, hHI, j1, j2, j3, j4, j5, j6, j7, j9, j10, j11, j12, j13, ht6⟩ := inv_all hI (by omega)
  have h49 : ∀ j, j ≤ 3 → ∃ q, q ≤ 40 ∧ S 49 j = nI q := fun j hj => by obtain ⟨-, w, w1, w2, -⟩ := j13 j (by omega); exact ⟨w, w1, w2⟩
  refine ax_aload_n dL_law_160 rfl rfl ?_
  refine ly_arg (i := i) (k := 1) dL_law_161 dL_law_162 dL_law_163 rfl dL_law_164 dL_law_165 rfl rfl (by omega) hL ?_
  refine ly_arg (i := i) (k := 2) dL_law_166 dL_law_167 dL_law_168 rfl dL_law_169 dL_law_170 rfl rfl (by omega) hL ?_
  refine ly_arg (i := i) (k := 3) dL_law_171 dL_law_172 dL_law_173 rfl dL_law_174 dL_law_175 rfl rfl (by omega) hL ?_
  refine ly_C (av := [.int (xs G (i + 1)), .int (xs G (i + 2)), .int (xs G (i + 3))]) hp.1 hx dL_law_176 lL_13 rfl rfl rfl (by decide) (Nat.le_of_ble_eq_true rfl) (c_X11_hank G (rg rm) h.2 Q S (xs G (i + 1)) (xs G (i + 2)) (xs G (i + 3)) n t hCH) (fun v S1 h1 R1 hc => ?_)
  obtain ⟨rfl, q1⟩ := R1
  refine ax_aload_n dL_law_179 rfl rfl ?_
  refine ly_arg (i := i) (k := 1) dL_law_180 dL_law_181 dL_law_182 rfl dL_law_183 dL_law_184 rfl rfl (by omega) hL ?_
  refine ly_arg (i := i) (k := 2) dL_law_185 dL_law_186 dL_law_187 rfl dL_law_188 dL_law_189 rfl rfl (by omega) hL ?_
  refine ly_arg (i := i) (k := 3) dL_law_190 dL_law_191 dL_law_192 rfl dL_law_193 dL_law_194 rfl rfl (by omega) hL ?_
  refine ly_M (av := [.int (xs G (i + 1)), .int (xs G (i + 2)), .int (xs G (i + 3))]) (bp_m hp hc) dL_law_195 lL_17 rfl rfl rfl (by decide) (Nat.le_of_ble_eq_true rfl) (c_X12_hank G rm h1 S (xs G (i + 1)) (xs G (i + 2)) (xs G (i + 3)) n j1.1 j1.2) (fun y S2 h2 R2 hm => ?_)
  obtain ⟨rfl, q2⟩ := R2
  refine ax_icmp_eq (tgt := 1104) dL_law_198 (by decide) (fun _ => ?_) (fun ne => absurd rfl ne)
  refine ax_budget (mc' := mc) (ms' := ms) (by omega) (by omega) ?_
  have c9 : clK (f_hank S (xs G (i + 1)) (xs G (i + 2)) (xs G (i + 3))).2 S1 := cl_eq q1
  have m9 : mdK (f_hank S (xs G (i + 1)) (xs G (i + 2)) (xs G (i + 3))).2 S2 := md_eq q2
  exact K Q _ h2 (bp_sync hc hm (shd_of c9 m9)) hx (INV.go (inv_hank hI hB9) (by omega) (agr_of c9 m9))
set_option maxHeartbeats 1000000 in
set_option maxRecDepth 100000 in
theorem law_ounces (G : Gt) (rm x i mc ms B : Nat) (Q : Qt) (S : MS) (h : Ht) (Post : Option Value → Ht → Prop) (hi : i + 6 ≤ gA G 8) (hL : gA G 8 ≤ 384) (hB9 : 99 ≤ B) (hB : B ≤ 39000) (hx : Q.1 0 0 = x) (hp : BP G rm Q S h) (hI : INV S Q.2.1 Q.2.2 B) (K : ∀ (Q' : Qt) (S' : MS) (h' : Ht), BP G rm Q' S' h' → Q'.1 0 0 = x → INV S' Q'.2.1 Q'.2.2 (B + 100) → AX G 60 YL 1104 [some (.ref (gA G 7)), some (.ref x), some (.ref rm), some (.int (nI i))] [] h' mc ms Post) : AX G 60 YL 203 [some (.ref (gA G 7)), some (.ref x), some (.ref rm), some (.int (nI i))] [] h (5 + mc) (333 + ms) Post := by
  obtain ⟨n, t, tp, kh, kc, kt, hCH, hHI, j1, j2, j3, j4, j5, j6, j7, j9, j10, j11, j12, j13, ht6⟩ := inv_all hI (by omega)
  have h49 : ∀ j, j ≤ 3 → ∃ q, q ≤ 40 ∧ S 49 j = nI q := fun j hj => by obtain ⟨-, w, w1, w2, -⟩ := j13 j (by omega); exact ⟨w, w1, w2⟩
  refine ax_aload_n dL_law_203 rfl rfl ?_
  refine ly_arg (i := i) (k := 1) dL_law_204 dL_law_205 dL_law_206 rfl dL_law_207 dL_law_208 rfl rfl (by omega) hL ?_
  refine ly_arg (i := i) (k := 2) dL_law_209 dL_law_210 dL_law_211 rfl dL_law_212 dL_law_213 rfl rfl (by omega) hL ?_
  refine ly_C (av := [.int (xs G (i + 1)), .int (xs G (i + 2))]) hp.1 hx dL_law_214 lL_18 rfl rfl rfl (by decide) (Nat.le_of_ble_eq_true rfl) (c_X11_ounces G (rg rm) h.2 Q S (xs G (i + 1)) (xs G (i + 2)) n t hCH) (fun v S1 h1 R1 hc => ?_)
  obtain ⟨rfl, q1⟩ := R1
  refine ax_aload_n dL_law_217 rfl rfl ?_
  refine ly_arg (i := i) (k := 1) dL_law_218 dL_law_219 dL_law_220 rfl dL_law_221 dL_law_222 rfl rfl (by omega) hL ?_
  refine ly_arg (i := i) (k := 2) dL_law_223 dL_law_224 dL_law_225 rfl dL_law_226 dL_law_227 rfl rfl (by omega) hL ?_
  refine ly_M (av := [.int (xs G (i + 1)), .int (xs G (i + 2))]) (bp_m hp hc) dL_law_228 lL_22 rfl rfl rfl (by decide) (Nat.le_of_ble_eq_true rfl) (c_X12_ounces G rm h1 S (xs G (i + 1)) (xs G (i + 2)) n j1.1 j1.2) (fun y S2 h2 R2 hm => ?_)
  obtain ⟨rfl, q2⟩ := R2
  refine ax_icmp_eq (tgt := 1104) dL_law_231 (by decide) (fun _ => ?_) (fun ne => absurd rfl ne)
  refine ax_budget (mc' := mc) (ms' := ms) (by omega) (by omega) ?_
  have c9 : clK (f_ounces S (xs G (i + 1)) (xs G (i + 2))).2 S1 := cl_eq q1
  have m9 : mdK (f_ounces S (xs G (i + 1)) (xs G (i + 2))).2 S2 := md_eq q2
  exact K Q _ h2 (bp_sync hc hm (shd_of c9 m9)) hx (INV.go (inv_ounces hI hB9) (by omega) (agr_of c9 m9))
set_option maxHeartbeats 1000000 in
set_option maxRecDepth 100000 in
theorem law_fade (G : Gt) (rm x i mc ms B : Nat) (Q : Qt) (S : MS) (h : Ht) (Post : Option Value → Ht → Prop) (hi : i + 6 ≤ gA G 8) (hL : gA G 8 ≤ 384) (hB9 : 99 ≤ B) (hB : B ≤ 39000) (hx : Q.1 0 0 = x) (hp : BP G rm Q S h) (hI : INV S Q.2.1 Q.2.2 B) (K : ∀ (Q' : Qt) (S' : MS) (h' : Ht), BP G rm Q' S' h' → Q'.1 0 0 = x → INV S' Q'.2.1 Q'.2.2 (B + 100) → AX G 60 YL 1104 [some (.ref (gA G 7)), some (.ref x), some (.ref rm), some (.int (nI i))] [] h' mc ms Post) : AX G 60 YL 236 [some (.ref (gA G 7)), some (.ref x), some (.ref rm), some (.int (nI i))] [] h (5 + mc) (333 + ms) Post := by
  obtain ⟨n, t, tp, kh, kc, kt, hCH, hHI, j1, j2, j3, j4, j5, j6, j7, j9, j10, j11, j12, j13, ht6⟩ := inv_all hI (by omega)
  have h49 : ∀ j, j ≤ 3 → ∃ q, q ≤ 40 ∧ S 49 j = nI q := fun j hj => by obtain ⟨-, w, w1, w2, -⟩ := j13 j (by omega); exact ⟨w, w1, w2⟩
  refine ax_aload_n dL_law_236 rfl rfl ?_
  refine ly_arg (i := i) (k := 1) dL_law_237 dL_law_238 dL_law_239 rfl dL_law_240 dL_law_241 rfl rfl (by omega) hL ?_
  refine ly_arg (i := i) (k := 2) dL_law_242 dL_law_243 dL_law_244 rfl dL_law_245 dL_law_246 rfl rfl (by omega) hL ?_
  refine ly_C (av := [.int (xs G (i + 1)), .int (xs G (i + 2))]) hp.1 hx dL_law_247 lL_23 rfl rfl rfl (by decide) (Nat.le_of_ble_eq_true rfl) (c_X11_fade G (rg rm) h.2 Q S (xs G (i + 1)) (xs G (i + 2)) n t hCH) (fun v S1 h1 R1 hc => ?_)
  obtain ⟨rfl, q1⟩ := R1
  refine ax_aload_n dL_law_250 rfl rfl ?_
  refine ly_arg (i := i) (k := 1) dL_law_251 dL_law_252 dL_law_253 rfl dL_law_254 dL_law_255 rfl rfl (by omega) hL ?_
  refine ly_arg (i := i) (k := 2) dL_law_256 dL_law_257 dL_law_258 rfl dL_law_259 dL_law_260 rfl rfl (by omega) hL ?_
  refine ly_M (av := [.int (xs G (i + 1)), .int (xs G (i + 2))]) (bp_m hp hc) dL_law_261 lL_26 rfl rfl rfl (by decide) (Nat.le_of_ble_eq_true rfl) (c_X12_fade G rm h1 S (xs G (i + 1)) (xs G (i + 2)) ) (fun y S2 h2 R2 hm => ?_)
  obtain ⟨rfl, q2⟩ := R2
  refine ax_icmp_eq (tgt := 1104) dL_law_264 (by decide) (fun _ => ?_) (fun ne => absurd rfl ne)
  refine ax_budget (mc' := mc) (ms' := ms) (by omega) (by omega) ?_
  have c9 : clK (f_fade S (xs G (i + 1)) (xs G (i + 2))).2 S1 := cl_eq q1
  have m9 : mdK (f_fade S (xs G (i + 1)) (xs G (i + 2))).2 S2 := md_eq q2
  exact K Q _ h2 (bp_sync hc hm (shd_of c9 m9)) hx (INV.go (inv_fade hI) (by omega) (agr_of c9 m9))
set_option maxHeartbeats 1000000 in
set_option maxRecDepth 100000 in
theorem law_coat (G : Gt) (rm x i mc ms B : Nat) (Q : Qt) (S : MS) (h : Ht) (Post : Option Value → Ht → Prop) (hi : i + 6 ≤ gA G 8) (hL : gA G 8 ≤ 384) (hB9 : 99 ≤ B) (hB : B ≤ 39000) (hx : Q.1 0 0 = x) (hp : BP G rm Q S h) (hI : INV S Q.2.1 Q.2.2 B) (K : ∀ (Q' : Qt) (S' : MS) (h' : Ht), BP G rm Q' S' h' → Q'.1 0 0 = x → INV S' Q'.2.1 Q'.2.2 (B + 100) → AX G 60 YL 1104 [some (.ref (gA G 7)), some (.ref x), some (.ref rm), some (.int (nI i))] [] h' mc ms Post) : AX G 60 YL 269 [some (.ref (gA G 7)), some (.ref x), some (.ref rm), some (.int (nI i))] [] h (5 + mc) (333 + ms) Post := by
  obtain ⟨n, t, tp, kh, kc, kt, hCH, hHI, j1, j2, j3, j4, j5, j6, j7, j9, j10, j11, j12, j13, ht6⟩ := inv_all hI (by omega)
  have h49 : ∀ j, j ≤ 3 → ∃ q, q ≤ 40 ∧ S 49 j = nI q := fun j hj => by obtain ⟨-, w, w1, w2, -⟩ := j13 j (by omega); exact ⟨w, w1, w2⟩
  have hz9 : Q.2.1 < 8 → S 12 Q.2.1 = 0 ∧ S 13 Q.2.1 = 0 ∧ S 45 Q.2.1 = 0 ∧ S 46 Q.2.1 = 0 ∧ S 47 Q.2.1 = 0 := fun w => by
    obtain ⟨-, z2, z3, z4, z5, z6⟩ := j10 Q.2.1 (Nat.le_refl _) w
    exact ⟨z2, z3, z4, z5, z6⟩
  refine ax_budget (mc' := 1 + (4 + mc)) (ms' := 10 + (323 + ms)) (by omega) (by omega) ?_
  refine ax_aload_n dL_law_269 rfl rfl ?_
  refine ly_arg (i := i) (k := 1) dL_law_270 dL_law_271 dL_law_272 rfl dL_law_273 dL_law_274 rfl rfl (by omega) hL ?_
  refine ly_arg (i := i) (k := 2) dL_law_275 dL_law_276 dL_law_277 rfl dL_law_278 dL_law_279 rfl rfl (by omega) hL ?_
  refine ly_arg (i := i) (k := 3) dL_law_280 dL_law_281 dL_law_282 rfl dL_law_283 dL_law_284 rfl rfl (by omega) hL ?_
  refine ly_C2 (mc1 := 1) (ms1 := 10) (av := [.int (xs G (i + 1)), .int (xs G (i + 2)), .int (xs G (i + 3))]) hp.1 hx dL_law_285 lL_27 rfl rfl rfl (by decide) (Nat.le_of_ble_eq_true rfl) (c_X11_coat G (rg rm) h.2 Q S (xs G (i + 1)) (xs G (i + 2)) (xs G (i + 3)) j2.1 j2.2 hz9) (fun v p h1 R1 hc => ?_)
  obtain ⟨rfl, q1⟩ := R1
  refine ax_aload_n dL_law_288 rfl rfl ?_
  refine ly_arg (i := i) (k := 1) dL_law_289 dL_law_290 dL_law_291 rfl dL_law_292 dL_law_293 rfl rfl (by omega) hL ?_
  refine ly_arg (i := i) (k := 2) dL_law_294 dL_law_295 dL_law_296 rfl dL_law_297 dL_law_298 rfl rfl (by omega) hL ?_
  refine ly_arg (i := i) (k := 3) dL_law_299 dL_law_300 dL_law_301 rfl dL_law_302 dL_law_303 rfl rfl (by omega) hL ?_
  refine ly_M (av := [.int (xs G (i + 1)), .int (xs G (i + 2)), .int (xs G (i + 3))]) (bp_m hp hc) dL_law_304 lL_30 rfl rfl rfl (by decide) (Nat.le_of_ble_eq_true rfl) (c_X12_coat G rm h1 S (xs G (i + 1)) (xs G (i + 2)) (xs G (i + 3)) Q.2.1 j2.1 j2.2) (fun y S2 h2 R2 hm => ?_)
  obtain ⟨rfl, q2⟩ := R2
  refine ax_icmp_eq (tgt := 1104) dL_law_307 (by decide) (fun _ => ?_) (fun ne => absurd rfl ne)
  obtain ⟨p1, p2, p3, p4, p5⟩ := q1
  refine ax_budget (mc' := mc) (ms' := ms) (by omega) (by omega) ?_
  have c9 : clK (f_coat S (xs G (i + 1)) (xs G (i + 2)) (xs G (i + 3))).2 p.1 := cl_fr p1 (fun k hk => by simp only [List.mem_cons, List.not_mem_nil, or_false] at hk; omega)
  have m9 : mdK (f_coat S (xs G (i + 1)) (xs G (i + 2)) (xs G (i + 3))).2 S2 := md_eq q2
  refine K p.2 _ h2 (bp_sync hc hm (shd_of c9 m9)) ((p2 0 0 Nat.one_pos).trans hx) (INV.go (?_ : INV _ p.2.2.1 p.2.2.2 B) (by omega) (agr_of c9 m9))
  rw [p3]
  exact inv_coat hI p4 p5
set_option maxHeartbeats 1000000 in
set_option maxRecDepth 100000 in
theorem law_told (G : Gt) (rm x i mc ms B : Nat) (Q : Qt) (S : MS) (h : Ht) (Post : Option Value → Ht → Prop) (hi : i + 6 ≤ gA G 8) (hL : gA G 8 ≤ 384) (hB9 : 99 ≤ B) (hB : B ≤ 39000) (hx : Q.1 0 0 = x) (hp : BP G rm Q S h) (hI : INV S Q.2.1 Q.2.2 B) (K : ∀ (Q' : Qt) (S' : MS) (h' : Ht), BP G rm Q' S' h' → Q'.1 0 0 = x → INV S' Q'.2.1 Q'.2.2 (B + 100) → AX G 60 YL 1104 [some (.ref (gA G 7)), some (.ref x), some (.ref rm), some (.int (nI i))] [] h' mc ms Post) : AX G 60 YL 312 [some (.ref (gA G 7)), some (.ref x), some (.ref rm), some (.int (nI i))] [] h (5 + mc) (333 + ms) Post := by
  obtain ⟨n, t, tp, kh, kc, kt, hCH, hHI, j1, j2, j3, j4, j5, j6, j7, j9, j10, j11, j12, j13, ht6⟩ := inv_all hI (by omega)
  have h49 : ∀ j, j ≤ 3 → ∃ q, q ≤ 40 ∧ S 49 j = nI q := fun j hj => by obtain ⟨-, w, w1, w2, -⟩ := j13 j (by omega); exact ⟨w, w1, w2⟩
  refine ax_aload_n dL_law_312 rfl rfl ?_
  refine ly_arg (i := i) (k := 1) dL_law_313 dL_law_314 dL_law_315 rfl dL_law_316 dL_law_317 rfl rfl (by omega) hL ?_
  refine ly_arg (i := i) (k := 2) dL_law_318 dL_law_319 dL_law_320 rfl dL_law_321 dL_law_322 rfl rfl (by omega) hL ?_
  refine ly_C (av := [.int (xs G (i + 1)), .int (xs G (i + 2))]) hp.1 hx dL_law_323 lL_31 rfl rfl rfl (by decide) (Nat.le_of_ble_eq_true rfl) (c_X11_told G (rg rm) h.2 Q S (xs G (i + 1)) (xs G (i + 2)) n t hCH) (fun v S1 h1 R1 hc => ?_)
  obtain ⟨rfl, q1⟩ := R1
  refine ax_aload_n dL_law_326 rfl rfl ?_
  refine ly_arg (i := i) (k := 1) dL_law_327 dL_law_328 dL_law_329 rfl dL_law_330 dL_law_331 rfl rfl (by omega) hL ?_
  refine ly_arg (i := i) (k := 2) dL_law_332 dL_law_333 dL_law_334 rfl dL_law_335 dL_law_336 rfl rfl (by omega) hL ?_
  refine ly_M (av := [.int (xs G (i + 1)), .int (xs G (i + 2))]) (bp_m hp hc) dL_law_337 lL_34 rfl rfl rfl (by decide) (Nat.le_of_ble_eq_true rfl) (c_X12_told G rm h1 S (xs G (i + 1)) (xs G (i + 2)) n hHI Q.2.1 j2.1 j2.2) (fun y S2 h2 R2 hm => ?_)
  obtain ⟨rfl, q2⟩ := R2
  refine ax_icmp_eq (tgt := 1104) dL_law_340 (by decide) (fun _ => ?_) (fun ne => absurd rfl ne)
  refine ax_budget (mc' := mc) (ms' := ms) (by omega) (by omega) ?_
  have c9 : clK S S1 := cl_2 ht6 q1
  have m9 : mdK S S2 := md_s q2
  exact K Q _ h2 (bp_sync hc hm (shd_of c9 m9)) hx (INV.go (hI) (by omega) (agr_of c9 m9))
set_option maxHeartbeats 1000000 in
set_option maxRecDepth 100000 in
theorem law_hankTold (G : Gt) (rm x i mc ms B : Nat) (Q : Qt) (S : MS) (h : Ht) (Post : Option Value → Ht → Prop) (hi : i + 6 ≤ gA G 8) (hL : gA G 8 ≤ 384) (hB9 : 99 ≤ B) (hB : B ≤ 39000) (hx : Q.1 0 0 = x) (hp : BP G rm Q S h) (hI : INV S Q.2.1 Q.2.2 B) (K : ∀ (Q' : Qt) (S' : MS) (h' : Ht), BP G rm Q' S' h' → Q'.1 0 0 = x → INV S' Q'.2.1 Q'.2.2 (B + 100) → AX G 60 YL 1104 [some (.ref (gA G 7)), some (.ref x), some (.ref rm), some (.int (nI i))] [] h' mc ms Post) : AX G 60 YL 345 [some (.ref (gA G 7)), some (.ref x), some (.ref rm), some (.int (nI i))] [] h (5 + mc) (333 + ms) Post := by
  obtain ⟨n, t, tp, kh, kc, kt, hCH, hHI, j1, j2, j3, j4, j5, j6, j7, j9, j10, j11, j12, j13, ht6⟩ := inv_all hI (by omega)
  have h49 : ∀ j, j ≤ 3 → ∃ q, q ≤ 40 ∧ S 49 j = nI q := fun j hj => by obtain ⟨-, w, w1, w2, -⟩ := j13 j (by omega); exact ⟨w, w1, w2⟩
  refine ax_aload_n dL_law_345 rfl rfl ?_
  refine ly_arg (i := i) (k := 1) dL_law_346 dL_law_347 dL_law_348 rfl dL_law_349 dL_law_350 rfl rfl (by omega) hL ?_
  refine ly_arg (i := i) (k := 2) dL_law_351 dL_law_352 dL_law_353 rfl dL_law_354 dL_law_355 rfl rfl (by omega) hL ?_
  refine ly_C (av := [.int (xs G (i + 1)), .int (xs G (i + 2))]) hp.1 hx dL_law_356 lL_35 rfl rfl rfl (by decide) (Nat.le_of_ble_eq_true rfl) (c_X11_hankTold G (rg rm) h.2 Q S (xs G (i + 1)) (xs G (i + 2)) n t hCH) (fun v S1 h1 R1 hc => ?_)
  obtain ⟨rfl, q1⟩ := R1
  refine ax_aload_n dL_law_359 rfl rfl ?_
  refine ly_arg (i := i) (k := 1) dL_law_360 dL_law_361 dL_law_362 rfl dL_law_363 dL_law_364 rfl rfl (by omega) hL ?_
  refine ly_arg (i := i) (k := 2) dL_law_365 dL_law_366 dL_law_367 rfl dL_law_368 dL_law_369 rfl rfl (by omega) hL ?_
  refine ly_M (av := [.int (xs G (i + 1)), .int (xs G (i + 2))]) (bp_m hp hc) dL_law_370 lL_38 rfl rfl rfl (by decide) (Nat.le_of_ble_eq_true rfl) (c_X12_hankTold G rm h1 S (xs G (i + 1)) (xs G (i + 2)) n j1.1 j1.2 hHI.2.2.1) (fun y S2 h2 R2 hm => ?_)
  obtain ⟨rfl, q2⟩ := R2
  refine ax_icmp_eq (tgt := 1104) dL_law_373 (by decide) (fun _ => ?_) (fun ne => absurd rfl ne)
  refine ax_budget (mc' := mc) (ms' := ms) (by omega) (by omega) ?_
  have c9 : clK S S1 := cl_eq q1
  have m9 : mdK S S2 := md_eq q2
  exact K Q _ h2 (bp_sync hc hm (shd_of c9 m9)) hx (INV.go (hI) (by omega) (agr_of c9 m9))
set_option maxHeartbeats 1000000 in
set_option maxRecDepth 100000 in
theorem law_feed (G : Gt) (rm x i mc ms B : Nat) (Q : Qt) (S : MS) (h : Ht) (Post : Option Value → Ht → Prop) (hi : i + 6 ≤ gA G 8) (hL : gA G 8 ≤ 384) (hB9 : 99 ≤ B) (hB : B ≤ 39000) (hx : Q.1 0 0 = x) (hp : BP G rm Q S h) (hI : INV S Q.2.1 Q.2.2 B) (K : ∀ (Q' : Qt) (S' : MS) (h' : Ht), BP G rm Q' S' h' → Q'.1 0 0 = x → INV S' Q'.2.1 Q'.2.2 (B + 100) → AX G 60 YL 1104 [some (.ref (gA G 7)), some (.ref x), some (.ref rm), some (.int (nI i))] [] h' mc ms Post) : AX G 60 YL 378 [some (.ref (gA G 7)), some (.ref x), some (.ref rm), some (.int (nI i))] [] h (5 + mc) (333 + ms) Post := by
  obtain ⟨n, t, tp, kh, kc, kt, hCH, hHI, j1, j2, j3, j4, j5, j6, j7, j9, j10, j11, j12, j13, ht6⟩ := inv_all hI (by omega)
  have h49 : ∀ j, j ≤ 3 → ∃ q, q ≤ 40 ∧ S 49 j = nI q := fun j hj => by obtain ⟨-, w, w1, w2, -⟩ := j13 j (by omega); exact ⟨w, w1, w2⟩
  refine ax_aload_n dL_law_378 rfl rfl ?_
  refine ly_arg (i := i) (k := 1) dL_law_379 dL_law_380 dL_law_381 rfl dL_law_382 dL_law_383 rfl rfl (by omega) hL ?_
  refine ly_arg (i := i) (k := 2) dL_law_384 dL_law_385 dL_law_386 rfl dL_law_387 dL_law_388 rfl rfl (by omega) hL ?_
  refine ax_i2l dL_law_389 ?_
  refine ax_bipush (v := 32) dL_law_390 rfl ?_
  refine ax_lshl dL_law_392 ?_
  refine ly_arg (i := i) (k := 3) dL_law_393 dL_law_394 dL_law_395 rfl dL_law_396 dL_law_397 rfl rfl (by omega) hL ?_
  refine ax_i2l dL_law_398 ?_
  refine ax_ldc2 dL_law_399 kl_39 ?_
  refine ax_land dL_law_402 ?_
  refine ax_lor dL_law_403 ?_
  refine ly_C (av := [.int (xs G (i + 1)), .long ((xs G (i + 2)).toInt64 <<< ((32 : Int32).toInt64 &&& 63) ||| (xs G (i + 3)).toInt64 &&& 4294967295)]) hp.1 hx dL_law_404 lL_41 rfl rfl rfl (by decide) (Nat.le_of_ble_eq_true rfl) (c_X11_feed G (rg rm) h.2 Q S _ _ tp j5.1 j5.2.1) (fun v S1 h1 R1 hc => ?_)
  obtain ⟨rfl, q1⟩ := R1
  refine ax_aload_n dL_law_407 rfl rfl ?_
  refine ly_arg (i := i) (k := 1) dL_law_408 dL_law_409 dL_law_410 rfl dL_law_411 dL_law_412 rfl rfl (by omega) hL ?_
  refine ly_arg (i := i) (k := 2) dL_law_413 dL_law_414 dL_law_415 rfl dL_law_416 dL_law_417 rfl rfl (by omega) hL ?_
  refine ax_i2l dL_law_418 ?_
  refine ax_bipush (v := 32) dL_law_419 rfl ?_
  refine ax_lshl dL_law_421 ?_
  refine ly_arg (i := i) (k := 3) dL_law_422 dL_law_423 dL_law_424 rfl dL_law_425 dL_law_426 rfl rfl (by omega) hL ?_
  refine ax_i2l dL_law_427 ?_
  refine ax_ldc2 dL_law_428 kl_39 ?_
  refine ax_land dL_law_431 ?_
  refine ax_lor dL_law_432 ?_
  refine ly_M (av := [.int (xs G (i + 1)), .long ((xs G (i + 2)).toInt64 <<< ((32 : Int32).toInt64 &&& 63) ||| (xs G (i + 3)).toInt64 &&& 4294967295)]) (bp_m hp hc) dL_law_433 lL_45 rfl rfl rfl (by decide) (Nat.le_of_ble_eq_true rfl) (c_X12_feed G rm h1 S _ _ tp j5.1 j5.2.1) (fun y S2 h2 R2 hm => ?_)
  obtain ⟨rfl, q2⟩ := R2
  refine ax_icmp_eq (tgt := 1104) dL_law_436 (by decide) (fun _ => ?_) (fun ne => absurd rfl ne)
  refine ax_budget (mc' := mc) (ms' := ms) (by omega) (by omega) ?_
  have c9 : clK (f_feed S (xs G (i + 1)) ((xs G (i + 2)).toInt64 <<< ((32 : Int32).toInt64 &&& 63) ||| (xs G (i + 3)).toInt64 &&& 4294967295)).2 S1 := cl_eq q1
  have m9 : mdK (f_feed S (xs G (i + 1)) ((xs G (i + 2)).toInt64 <<< ((32 : Int32).toInt64 &&& 63) ||| (xs G (i + 3)).toInt64 &&& 4294967295)).2 S2 := md_eq q2
  exact K Q _ h2 (bp_sync hc hm (shd_of c9 m9)) hx (INV.go (inv_feed hI) (by omega) (agr_of c9 m9))
set_option maxHeartbeats 1000000 in
set_option maxRecDepth 100000 in
theorem law_text (G : Gt) (rm x i mc ms B : Nat) (Q : Qt) (S : MS) (h : Ht) (Post : Option Value → Ht → Prop) (hi : i + 6 ≤ gA G 8) (hL : gA G 8 ≤ 384) (hB9 : 99 ≤ B) (hB : B ≤ 39000) (hx : Q.1 0 0 = x) (hp : BP G rm Q S h) (hI : INV S Q.2.1 Q.2.2 B) (K : ∀ (Q' : Qt) (S' : MS) (h' : Ht), BP G rm Q' S' h' → Q'.1 0 0 = x → INV S' Q'.2.1 Q'.2.2 (B + 100) → AX G 60 YL 1104 [some (.ref (gA G 7)), some (.ref x), some (.ref rm), some (.int (nI i))] [] h' mc ms Post) : AX G 60 YL 441 [some (.ref (gA G 7)), some (.ref x), some (.ref rm), some (.int (nI i))] [] h (5 + mc) (333 + ms) Post := by
  obtain ⟨n, t, tp, kh, kc, kt, hCH, hHI, j1, j2, j3, j4, j5, j6, j7, j9, j10, j11, j12, j13, ht6⟩ := inv_all hI (by omega)
  have h49 : ∀ j, j ≤ 3 → ∃ q, q ≤ 40 ∧ S 49 j = nI q := fun j hj => by obtain ⟨-, w, w1, w2, -⟩ := j13 j (by omega); exact ⟨w, w1, w2⟩
  have j8 : J8 S Q.2.1 := hCH.1.2.2.2.2
  refine ax_aload_n dL_law_441 rfl rfl ?_
  refine ly_C2 (mc1 := 5) (ms1 := 333) (av := []) hp.1 hx dL_law_442 lL_46 rfl rfl rfl (by decide) (Nat.le_of_ble_eq_true rfl) (c_X11_text G (rg rm) h.2 Q S tp ⟨ck_i G, j5.1, j5.2.1, j5.2.2⟩ j3.1 j3.2.1 j3.2.2 (by rw [j4.2.2, nI_clamp (by omega)]; have := j4.2.1; omega)) (fun v p h1 R1 hc => ?_)
  obtain ⟨rfl, q1⟩ := R1
  refine ax_aload_n dL_law_445 rfl rfl ?_
  refine ly_M (av := []) (bp_m hp hc) dL_law_446 lL_50 rfl rfl rfl (by decide) (Nat.le_of_ble_eq_true rfl) (c_X12_text G rm h1 S tp Q.2.2 j5.1 j5.2.1 j3.1 j3.2.2) (fun y S2 h2 R2 hm => ?_)
  obtain ⟨rfl, q2⟩ := R2
  refine ax_icmp_eq (tgt := 1104) dL_law_449 (by decide) (fun _ => ?_) (fun ne => absurd rfl ne)
  obtain ⟨p1, p2, p3, p4, p5, p6, p7⟩ := q1
  refine ax_budget (mc' := mc) (ms' := ms) (by omega) (by omega) ?_
  obtain ⟨e1, tp9, e2, e3⟩ := c_X12_textF j5.1 j5.2.1 j3.1 j3.2.2
  subst q2
  have l6 := j3.2.2
  have hs : shd p.1 (f_text S).2 := fun k hk => p1 k (fun w => by simp only [XT, List.mem_cons, List.not_mem_nil, or_false] at w; omega)
  have g : ∀ k, ((1 ≤ k ∧ k ≤ 14) ∨ k = 17 ∨ (39 ≤ k ∧ k ≤ 49) ∨ k = 60 ∨ (110 ≤ k ∧ k ≤ 113)) → syn p.1 (f_text S).2 k = S k := fun k hk => by
    rw [syn_c (by omega), p1 k (fun w => by simp only [XT, List.mem_cons, List.not_mem_nil, or_false] at w; omega)]
    exact e1 k (by omega) (by omega) (by omega)
  have s15 : syn p.1 (f_text S).2 15 = (f_text S).2 15 := syn_m hs (by decide)
  have s16 : syn p.1 (f_text S).2 16 = (f_text S).2 16 := syn_m hs (by decide)
  have s50 : syn p.1 (f_text S).2 50 = S 50 := (syn_m hs (by decide)).trans (e1 50 (by decide) (by decide) (by decide))
  refine K p.2 _ h2 (bp_sync hc hm hs) ((p2 0 0 Nat.one_pos).trans hx) ?_
  have hat := p7 (syn p.1 (f_text S).2) (syn_m hs (by decide)) (syn_m hs (by decide)) (syn_m hs (by decide)) (syn_c (by decide)) (fun j hj => ⟨syn_c (by omega), syn_c (by omega)⟩) j9
  generalize syn p.1 (f_text S).2 = U at g s15 s16 s50 hat ⊢
  rw [p3]
  exact ⟨n, t, tp9, kh, kc, kt, j1.go (g _ (by decide)), j2.go (g _ (by decide)), ⟨by rw [s16]; exact p4, by have := j3.2.1; omega, p5⟩, ⟨by rw [g 17 (by decide)]; exact j4.1, by have := j4.2.1; omega, by rw [g 60 (by decide)]; exact j4.2.2⟩, ⟨by rw [s15]; exact e3, e2, by rw [g 14 (by decide)]; exact j5.2.2⟩, J6.go j6 (g _ (by decide)) (g _ (by decide)) (g _ (by decide)), j7.go (by omega) (g _ (by decide)) (g _ (by decide)), J8.go j8 (g _ (by decide)) (g _ (by decide)) (g _ (by decide)), hat, J10.go j10 (g _ (by decide)) (g _ (by decide)) (g _ (by decide)) (g _ (by decide)) (g _ (by decide)) (g _ (by decide)), j11.go (g _ (by decide)) (g _ (by decide)) (g _ (by decide)) (g _ (by decide)), ⟨by rw [g 40 (by decide)]; exact j12.1, j12.2.1, by rw [g 41 (by decide)]; exact j12.2.2.1, j12.2.2.2.1, by rw [g 42 (by decide)]; exact j12.2.2.2.2.1, by have := j12.2.2.2.2.2.1; omega, by rw [g 44 (by decide)]; exact j12.2.2.2.2.2.2⟩, shI_c j13 (g _ (by decide)) (g _ (by decide)) s50 (fun s hs => g _ (by omega))⟩
set_option maxHeartbeats 1000000 in
set_option maxRecDepth 100000 in
theorem law_force (G : Gt) (rm x i mc ms B : Nat) (Q : Qt) (S : MS) (h : Ht) (Post : Option Value → Ht → Prop) (hi : i + 6 ≤ gA G 8) (hL : gA G 8 ≤ 384) (hB9 : 99 ≤ B) (hB : B ≤ 39000) (hx : Q.1 0 0 = x) (hp : BP G rm Q S h) (hI : INV S Q.2.1 Q.2.2 B) (K : ∀ (Q' : Qt) (S' : MS) (h' : Ht), BP G rm Q' S' h' → Q'.1 0 0 = x → INV S' Q'.2.1 Q'.2.2 (B + 100) → AX G 60 YL 1104 [some (.ref (gA G 7)), some (.ref x), some (.ref rm), some (.int (nI i))] [] h' mc ms Post) : AX G 60 YL 454 [some (.ref (gA G 7)), some (.ref x), some (.ref rm), some (.int (nI i))] [] h (5 + mc) (333 + ms) Post := by
  obtain ⟨n, t, tp, kh, kc, kt, hCH, hHI, j1, j2, j3, j4, j5, j6, j7, j9, j10, j11, j12, j13, ht6⟩ := inv_all hI (by omega)
  have h49 : ∀ j, j ≤ 3 → ∃ q, q ≤ 40 ∧ S 49 j = nI q := fun j hj => by obtain ⟨-, w, w1, w2, -⟩ := j13 j (by omega); exact ⟨w, w1, w2⟩
  refine ax_aload_n dL_law_454 rfl rfl ?_
  refine ly_arg (i := i) (k := 1) dL_law_455 dL_law_456 dL_law_457 rfl dL_law_458 dL_law_459 rfl rfl (by omega) hL ?_
  refine ly_C (av := [.int (xs G (i + 1))]) hp.1 hx dL_law_460 lL_51 rfl rfl rfl (by decide) (Nat.le_of_ble_eq_true rfl) (c_X11_force G (rg rm) h.2 Q S (xs G (i + 1)) n t hCH) (fun v S1 h1 R1 hc => ?_)
  obtain ⟨rfl, q1⟩ := R1
  refine ax_aload_n dL_law_463 rfl rfl ?_
  refine ly_arg (i := i) (k := 1) dL_law_464 dL_law_465 dL_law_466 rfl dL_law_467 dL_law_468 rfl rfl (by omega) hL ?_
  refine ly_M (av := [.int (xs G (i + 1))]) (bp_m hp hc) dL_law_469 lL_55 rfl rfl rfl (by decide) (Nat.le_of_ble_eq_true rfl) (c_X12_force G rm h1 S (xs G (i + 1)) ) (fun y S2 h2 R2 hm => ?_)
  obtain ⟨rfl, q2⟩ := R2
  refine ax_icmp_eq (tgt := 1104) dL_law_472 (by decide) (fun _ => ?_) (fun ne => absurd rfl ne)
  refine ax_budget (mc' := mc) (ms' := ms) (by omega) (by omega) ?_
  rw [← j4.1] at q1
  have c9 : clK S1 S1 := cl_eq rfl
  have m9 : mdK S1 S2 := fun k hk => by rw [q2, q1]; exact (up2_ne (by omega)).symm
  exact K Q _ h2 (bp_sync hc hm (shd_of c9 m9)) hx (INV.go (inv_force hI q1) (by omega) (agr_of c9 m9))
set_option maxHeartbeats 1000000 in
set_option maxRecDepth 100000 in
theorem law_seen (G : Gt) (rm x i mc ms B : Nat) (Q : Qt) (S : MS) (h : Ht) (Post : Option Value → Ht → Prop) (hi : i + 6 ≤ gA G 8) (hL : gA G 8 ≤ 384) (hB9 : 99 ≤ B) (hB : B ≤ 39000) (hx : Q.1 0 0 = x) (hp : BP G rm Q S h) (hI : INV S Q.2.1 Q.2.2 B) (K : ∀ (Q' : Qt) (S' : MS) (h' : Ht), BP G rm Q' S' h' → Q'.1 0 0 = x → INV S' Q'.2.1 Q'.2.2 (B + 100) → AX G 60 YL 1104 [some (.ref (gA G 7)), some (.ref x), some (.ref rm), some (.int (nI i))] [] h' mc ms Post) : AX G 60 YL 477 [some (.ref (gA G 7)), some (.ref x), some (.ref rm), some (.int (nI i))] [] h (5 + mc) (333 + ms) Post := by
  obtain ⟨n, t, tp, kh, kc, kt, hCH, hHI, j1, j2, j3, j4, j5, j6, j7, j9, j10, j11, j12, j13, ht6⟩ := inv_all hI (by omega)
  have h49 : ∀ j, j ≤ 3 → ∃ q, q ≤ 40 ∧ S 49 j = nI q := fun j hj => by obtain ⟨-, w, w1, w2, -⟩ := j13 j (by omega); exact ⟨w, w1, w2⟩
  refine ax_aload_n dL_law_477 rfl rfl ?_
  refine ly_arg (i := i) (k := 1) dL_law_478 dL_law_479 dL_law_480 rfl dL_law_481 dL_law_482 rfl rfl (by omega) hL ?_
  refine ly_arg (i := i) (k := 2) dL_law_483 dL_law_484 dL_law_485 rfl dL_law_486 dL_law_487 rfl rfl (by omega) hL ?_
  refine ly_C (av := [.int (xs G (i + 1)), .int (xs G (i + 2))]) hp.1 hx dL_law_488 lL_56 rfl rfl rfl (by decide) (Nat.le_of_ble_eq_true rfl) (c_X11_seen G (rg rm) h.2 Q S (xs G (i + 1)) (xs G (i + 2)) n t hCH) (fun v S1 h1 R1 hc => ?_)
  obtain ⟨rfl, q1⟩ := R1
  refine ax_aload_n dL_law_491 rfl rfl ?_
  refine ly_arg (i := i) (k := 1) dL_law_492 dL_law_493 dL_law_494 rfl dL_law_495 dL_law_496 rfl rfl (by omega) hL ?_
  refine ly_arg (i := i) (k := 2) dL_law_497 dL_law_498 dL_law_499 rfl dL_law_500 dL_law_501 rfl rfl (by omega) hL ?_
  refine ly_M (av := [.int (xs G (i + 1)), .int (xs G (i + 2))]) (bp_m hp hc) dL_law_502 lL_59 rfl rfl rfl (by decide) (Nat.le_of_ble_eq_true rfl) (c_X12_seen G rm h1 S (xs G (i + 1)) (xs G (i + 2)) n hHI) (fun y S2 h2 R2 hm => ?_)
  obtain ⟨rfl, q2⟩ := R2
  refine ax_icmp_eq (tgt := 1104) dL_law_505 (by decide) (fun _ => ?_) (fun ne => absurd rfl ne)
  refine ax_budget (mc' := mc) (ms' := ms) (by omega) (by omega) ?_
  have c9 : clK S S1 := cl_2 ht6 q1
  have m9 : mdK S S2 := md_s q2
  exact K Q _ h2 (bp_sync hc hm (shd_of c9 m9)) hx (INV.go (hI) (by omega) (agr_of c9 m9))
set_option maxHeartbeats 1000000 in
set_option maxRecDepth 100000 in
theorem law_mayMeet (G : Gt) (rm x i mc ms B : Nat) (Q : Qt) (S : MS) (h : Ht) (Post : Option Value → Ht → Prop) (hi : i + 6 ≤ gA G 8) (hL : gA G 8 ≤ 384) (hB9 : 99 ≤ B) (hB : B ≤ 39000) (hx : Q.1 0 0 = x) (hp : BP G rm Q S h) (hI : INV S Q.2.1 Q.2.2 B) (K : ∀ (Q' : Qt) (S' : MS) (h' : Ht), BP G rm Q' S' h' → Q'.1 0 0 = x → INV S' Q'.2.1 Q'.2.2 (B + 100) → AX G 60 YL 1104 [some (.ref (gA G 7)), some (.ref x), some (.ref rm), some (.int (nI i))] [] h' mc ms Post) : AX G 60 YL 510 [some (.ref (gA G 7)), some (.ref x), some (.ref rm), some (.int (nI i))] [] h (5 + mc) (333 + ms) Post := by
  obtain ⟨n, t, tp, kh, kc, kt, hCH, hHI, j1, j2, j3, j4, j5, j6, j7, j9, j10, j11, j12, j13, ht6⟩ := inv_all hI (by omega)
  have h49 : ∀ j, j ≤ 3 → ∃ q, q ≤ 40 ∧ S 49 j = nI q := fun j hj => by obtain ⟨-, w, w1, w2, -⟩ := j13 j (by omega); exact ⟨w, w1, w2⟩
  refine ax_aload_n dL_law_510 rfl rfl ?_
  refine ly_arg (i := i) (k := 1) dL_law_511 dL_law_512 dL_law_513 rfl dL_law_514 dL_law_515 rfl rfl (by omega) hL ?_
  refine ly_arg (i := i) (k := 2) dL_law_516 dL_law_517 dL_law_518 rfl dL_law_519 dL_law_520 rfl rfl (by omega) hL ?_
  refine ly_arg (i := i) (k := 3) dL_law_521 dL_law_522 dL_law_523 rfl dL_law_524 dL_law_525 rfl rfl (by omega) hL ?_
  refine ly_C (av := [.int (xs G (i + 1)), .int (xs G (i + 2)), .int (xs G (i + 3))]) hp.1 hx dL_law_526 lL_60 rfl rfl rfl (by decide) (Nat.le_of_ble_eq_true rfl) (c_X11_mayMeet G (rg rm) h.2 Q S (xs G (i + 1)) (xs G (i + 2)) (xs G (i + 3)) n t hCH) (fun v S1 h1 R1 hc => ?_)
  obtain ⟨rfl, q1⟩ := R1
  refine ax_aload_n dL_law_529 rfl rfl ?_
  refine ly_arg (i := i) (k := 1) dL_law_530 dL_law_531 dL_law_532 rfl dL_law_533 dL_law_534 rfl rfl (by omega) hL ?_
  refine ly_arg (i := i) (k := 2) dL_law_535 dL_law_536 dL_law_537 rfl dL_law_538 dL_law_539 rfl rfl (by omega) hL ?_
  refine ly_arg (i := i) (k := 3) dL_law_540 dL_law_541 dL_law_542 rfl dL_law_543 dL_law_544 rfl rfl (by omega) hL ?_
  refine ly_M (av := [.int (xs G (i + 1)), .int (xs G (i + 2)), .int (xs G (i + 3))]) (bp_m hp hc) dL_law_545 lL_63 rfl rfl rfl (by decide) (Nat.le_of_ble_eq_true rfl) (c_X12_mayMeet G rm h1 S (xs G (i + 1)) (xs G (i + 2)) (xs G (i + 3)) n hHI Q.2.1 j2.1 j2.2) (fun y S2 h2 R2 hm => ?_)
  obtain ⟨rfl, q2⟩ := R2
  refine ax_icmp_eq (tgt := 1104) dL_law_548 (by decide) (fun _ => ?_) (fun ne => absurd rfl ne)
  refine ax_budget (mc' := mc) (ms' := ms) (by omega) (by omega) ?_
  have c9 : clK S S1 := cl_s ht6 q1
  have m9 : mdK S S2 := md_s q2
  exact K Q _ h2 (bp_sync hc hm (shd_of c9 m9)) hx (INV.go (hI) (by omega) (agr_of c9 m9))
set_option maxHeartbeats 1000000 in
set_option maxRecDepth 100000 in
theorem law_between (G : Gt) (rm x i mc ms B : Nat) (Q : Qt) (S : MS) (h : Ht) (Post : Option Value → Ht → Prop) (hi : i + 6 ≤ gA G 8) (hL : gA G 8 ≤ 384) (hB9 : 99 ≤ B) (hB : B ≤ 39000) (hx : Q.1 0 0 = x) (hp : BP G rm Q S h) (hI : INV S Q.2.1 Q.2.2 B) (K : ∀ (Q' : Qt) (S' : MS) (h' : Ht), BP G rm Q' S' h' → Q'.1 0 0 = x → INV S' Q'.2.1 Q'.2.2 (B + 100) → AX G 60 YL 1104 [some (.ref (gA G 7)), some (.ref x), some (.ref rm), some (.int (nI i))] [] h' mc ms Post) : AX G 60 YL 553 [some (.ref (gA G 7)), some (.ref x), some (.ref rm), some (.int (nI i))] [] h (5 + mc) (333 + ms) Post := by
  obtain ⟨n, t, tp, kh, kc, kt, hCH, hHI, j1, j2, j3, j4, j5, j6, j7, j9, j10, j11, j12, j13, ht6⟩ := inv_all hI (by omega)
  have h49 : ∀ j, j ≤ 3 → ∃ q, q ≤ 40 ∧ S 49 j = nI q := fun j hj => by obtain ⟨-, w, w1, w2, -⟩ := j13 j (by omega); exact ⟨w, w1, w2⟩
  refine ax_aload_n dL_law_553 rfl rfl ?_
  refine ly_arg (i := i) (k := 1) dL_law_554 dL_law_555 dL_law_556 rfl dL_law_557 dL_law_558 rfl rfl (by omega) hL ?_
  refine ly_arg (i := i) (k := 2) dL_law_559 dL_law_560 dL_law_561 rfl dL_law_562 dL_law_563 rfl rfl (by omega) hL ?_
  refine ly_arg (i := i) (k := 3) dL_law_564 dL_law_565 dL_law_566 rfl dL_law_567 dL_law_568 rfl rfl (by omega) hL ?_
  refine ly_C (av := [.int (xs G (i + 1)), .int (xs G (i + 2)), .int (xs G (i + 3))]) hp.1 hx dL_law_569 lL_64 rfl rfl rfl (by decide) (Nat.le_of_ble_eq_true rfl) (c_X11_between G (rg rm) h.2 Q S (xs G (i + 1)) (xs G (i + 2)) (xs G (i + 3)) n t hCH) (fun v S1 h1 R1 hc => ?_)
  obtain ⟨rfl, q1⟩ := R1
  refine ax_aload_n dL_law_572 rfl rfl ?_
  refine ly_arg (i := i) (k := 1) dL_law_573 dL_law_574 dL_law_575 rfl dL_law_576 dL_law_577 rfl rfl (by omega) hL ?_
  refine ly_arg (i := i) (k := 2) dL_law_578 dL_law_579 dL_law_580 rfl dL_law_581 dL_law_582 rfl rfl (by omega) hL ?_
  refine ly_arg (i := i) (k := 3) dL_law_583 dL_law_584 dL_law_585 rfl dL_law_586 dL_law_587 rfl rfl (by omega) hL ?_
  refine ly_M (av := [.int (xs G (i + 1)), .int (xs G (i + 2)), .int (xs G (i + 3))]) (bp_m hp hc) dL_law_588 lL_67 rfl rfl rfl (by decide) (Nat.le_of_ble_eq_true rfl) (c_X12_between G rm h1 S (xs G (i + 1)) (xs G (i + 2)) (xs G (i + 3)) n j1.1 j1.2 hHI.2.2.1) (fun y S2 h2 R2 hm => ?_)
  obtain ⟨rfl, q2⟩ := R2
  refine ax_icmp_eq (tgt := 1104) dL_law_591 (by decide) (fun _ => ?_) (fun ne => absurd rfl ne)
  refine ax_budget (mc' := mc) (ms' := ms) (by omega) (by omega) ?_
  have c9 : clK S S1 := cl_eq q1
  have m9 : mdK S S2 := md_eq q2
  exact K Q _ h2 (bp_sync hc hm (shd_of c9 m9)) hx (INV.go (hI) (by omega) (agr_of c9 m9))
set_option maxHeartbeats 1000000 in
set_option maxRecDepth 100000 in
theorem law_range (G : Gt) (rm x i mc ms B : Nat) (Q : Qt) (S : MS) (h : Ht) (Post : Option Value → Ht → Prop) (hi : i + 6 ≤ gA G 8) (hL : gA G 8 ≤ 384) (hB9 : 99 ≤ B) (hB : B ≤ 39000) (hx : Q.1 0 0 = x) (hp : BP G rm Q S h) (hI : INV S Q.2.1 Q.2.2 B) (K : ∀ (Q' : Qt) (S' : MS) (h' : Ht), BP G rm Q' S' h' → Q'.1 0 0 = x → INV S' Q'.2.1 Q'.2.2 (B + 100) → AX G 60 YL 1104 [some (.ref (gA G 7)), some (.ref x), some (.ref rm), some (.int (nI i))] [] h' mc ms Post) : AX G 60 YL 596 [some (.ref (gA G 7)), some (.ref x), some (.ref rm), some (.int (nI i))] [] h (5 + mc) (333 + ms) Post := by
  obtain ⟨n, t, tp, kh, kc, kt, hCH, hHI, j1, j2, j3, j4, j5, j6, j7, j9, j10, j11, j12, j13, ht6⟩ := inv_all hI (by omega)
  have h49 : ∀ j, j ≤ 3 → ∃ q, q ≤ 40 ∧ S 49 j = nI q := fun j hj => by obtain ⟨-, w, w1, w2, -⟩ := j13 j (by omega); exact ⟨w, w1, w2⟩
  refine ax_aload_n dL_law_596 rfl rfl ?_
  refine ly_arg (i := i) (k := 1) dL_law_597 dL_law_598 dL_law_599 rfl dL_law_600 dL_law_601 rfl rfl (by omega) hL ?_
  refine ly_C (av := [.int (xs G (i + 1))]) hp.1 hx dL_law_602 lL_68 rfl rfl rfl (by decide) (Nat.le_of_ble_eq_true rfl) (c_X11_range G (rg rm) h.2 Q S (xs G (i + 1)) n t hCH) (fun v S1 h1 R1 hc => ?_)
  obtain ⟨rfl, q1⟩ := R1
  refine ax_aload_n dL_law_605 rfl rfl ?_
  refine ly_arg (i := i) (k := 1) dL_law_606 dL_law_607 dL_law_608 rfl dL_law_609 dL_law_610 rfl rfl (by omega) hL ?_
  refine ly_M (av := [.int (xs G (i + 1))]) (bp_m hp hc) dL_law_611 lL_71 rfl rfl rfl (by decide) (Nat.le_of_ble_eq_true rfl) (c_X12_range G rm h1 S (xs G (i + 1)) n hHI) (fun y S2 h2 R2 hm => ?_)
  obtain ⟨rfl, q2⟩ := R2
  refine ax_icmp_eq (tgt := 1104) dL_law_614 (by decide) (fun _ => ?_) (fun ne => absurd rfl ne)
  refine ax_budget (mc' := mc) (ms' := ms) (by omega) (by omega) ?_
  have c9 : clK S S1 := cl_2 ht6 q1
  have m9 : mdK S S2 := md_s q2
  exact K Q _ h2 (bp_sync hc hm (shd_of c9 m9)) hx (INV.go (hI) (by omega) (agr_of c9 m9))
set_option maxHeartbeats 1000000 in
set_option maxRecDepth 100000 in
theorem law_judge (G : Gt) (rm x i mc ms B : Nat) (Q : Qt) (S : MS) (h : Ht) (Post : Option Value → Ht → Prop) (hi : i + 6 ≤ gA G 8) (hL : gA G 8 ≤ 384) (hB9 : 99 ≤ B) (hB : B ≤ 39000) (hx : Q.1 0 0 = x) (hp : BP G rm Q S h) (hI : INV S Q.2.1 Q.2.2 B) (K : ∀ (Q' : Qt) (S' : MS) (h' : Ht), BP G rm Q' S' h' → Q'.1 0 0 = x → INV S' Q'.2.1 Q'.2.2 (B + 100) → AX G 60 YL 1104 [some (.ref (gA G 7)), some (.ref x), some (.ref rm), some (.int (nI i))] [] h' mc ms Post) : AX G 60 YL 619 [some (.ref (gA G 7)), some (.ref x), some (.ref rm), some (.int (nI i))] [] h (5 + mc) (333 + ms) Post := by
  obtain ⟨n, t, tp, kh, kc, kt, hCH, hHI, j1, j2, j3, j4, j5, j6, j7, j9, j10, j11, j12, j13, ht6⟩ := inv_all hI (by omega)
  have h49 : ∀ j, j ≤ 3 → ∃ q, q ≤ 40 ∧ S 49 j = nI q := fun j hj => by obtain ⟨-, w, w1, w2, -⟩ := j13 j (by omega); exact ⟨w, w1, w2⟩
  refine ax_aload_n dL_law_619 rfl rfl ?_
  refine ly_arg (i := i) (k := 1) dL_law_620 dL_law_621 dL_law_622 rfl dL_law_623 dL_law_624 rfl rfl (by omega) hL ?_
  refine ly_arg (i := i) (k := 2) dL_law_625 dL_law_626 dL_law_627 rfl dL_law_628 dL_law_629 rfl rfl (by omega) hL ?_
  refine ly_C (av := [.int (xs G (i + 1)), .int (xs G (i + 2))]) hp.1 hx dL_law_630 lL_72 rfl rfl rfl (by decide) (Nat.le_of_ble_eq_true rfl) (c_X11_judge G (rg rm) h.2 Q S (xs G (i + 1)) (xs G (i + 2)) n t hCH) (fun v S1 h1 R1 hc => ?_)
  obtain ⟨rfl, q1⟩ := R1
  refine ax_aload_n dL_law_633 rfl rfl ?_
  refine ly_arg (i := i) (k := 1) dL_law_634 dL_law_635 dL_law_636 rfl dL_law_637 dL_law_638 rfl rfl (by omega) hL ?_
  refine ly_arg (i := i) (k := 2) dL_law_639 dL_law_640 dL_law_641 rfl dL_law_642 dL_law_643 rfl rfl (by omega) hL ?_
  refine ly_M (av := [.int (xs G (i + 1)), .int (xs G (i + 2))]) (bp_m hp hc) dL_law_644 lL_75 rfl rfl rfl (by decide) (Nat.le_of_ble_eq_true rfl) (c_X12_judge G rm h1 S (xs G (i + 1)) (xs G (i + 2)) n hHI Q.2.1 j2.1 j2.2) (fun y S2 h2 R2 hm => ?_)
  obtain ⟨rfl, q2⟩ := R2
  refine ax_icmp_eq (tgt := 1104) dL_law_647 (by decide) (fun _ => ?_) (fun ne => absurd rfl ne)
  refine ax_budget (mc' := mc) (ms' := ms) (by omega) (by omega) ?_
  have c9 : clK S S1 := cl_s ht6 q1
  have m9 : mdK S S2 := md_s q2
  exact K Q _ h2 (bp_sync hc hm (shd_of c9 m9)) hx (INV.go (hI) (by omega) (agr_of c9 m9))
set_option maxHeartbeats 1000000 in
set_option maxRecDepth 100000 in
theorem law_can (G : Gt) (rm x i mc ms B : Nat) (Q : Qt) (S : MS) (h : Ht) (Post : Option Value → Ht → Prop) (hi : i + 6 ≤ gA G 8) (hL : gA G 8 ≤ 384) (hB9 : 99 ≤ B) (hB : B ≤ 39000) (hx : Q.1 0 0 = x) (hp : BP G rm Q S h) (hI : INV S Q.2.1 Q.2.2 B) (K : ∀ (Q' : Qt) (S' : MS) (h' : Ht), BP G rm Q' S' h' → Q'.1 0 0 = x → INV S' Q'.2.1 Q'.2.2 (B + 100) → AX G 60 YL 1104 [some (.ref (gA G 7)), some (.ref x), some (.ref rm), some (.int (nI i))] [] h' mc ms Post) : AX G 60 YL 652 [some (.ref (gA G 7)), some (.ref x), some (.ref rm), some (.int (nI i))] [] h (5 + mc) (333 + ms) Post := by
  obtain ⟨n, t, tp, kh, kc, kt, hCH, hHI, j1, j2, j3, j4, j5, j6, j7, j9, j10, j11, j12, j13, ht6⟩ := inv_all hI (by omega)
  have h49 : ∀ j, j ≤ 3 → ∃ q, q ≤ 40 ∧ S 49 j = nI q := fun j hj => by obtain ⟨-, w, w1, w2, -⟩ := j13 j (by omega); exact ⟨w, w1, w2⟩
  refine ax_aload_n dL_law_652 rfl rfl ?_
  refine ly_arg (i := i) (k := 1) dL_law_653 dL_law_654 dL_law_655 rfl dL_law_656 dL_law_657 rfl rfl (by omega) hL ?_
  refine ly_arg (i := i) (k := 2) dL_law_658 dL_law_659 dL_law_660 rfl dL_law_661 dL_law_662 rfl rfl (by omega) hL ?_
  refine ly_C (av := [.int (xs G (i + 1)), .int (xs G (i + 2))]) hp.1 hx dL_law_663 lL_76 rfl rfl rfl (by decide) (Nat.le_of_ble_eq_true rfl) (c_X11_can G (rg rm) h.2 Q S (xs G (i + 1)) (xs G (i + 2)) n t hCH) (fun v S1 h1 R1 hc => ?_)
  obtain ⟨rfl, q1⟩ := R1
  refine ax_aload_n dL_law_666 rfl rfl ?_
  refine ly_arg (i := i) (k := 1) dL_law_667 dL_law_668 dL_law_669 rfl dL_law_670 dL_law_671 rfl rfl (by omega) hL ?_
  refine ly_arg (i := i) (k := 2) dL_law_672 dL_law_673 dL_law_674 rfl dL_law_675 dL_law_676 rfl rfl (by omega) hL ?_
  refine ly_M (av := [.int (xs G (i + 1)), .int (xs G (i + 2))]) (bp_m hp hc) dL_law_677 lL_79 rfl rfl rfl (by decide) (Nat.le_of_ble_eq_true rfl) (c_X12_can G rm h1 S (xs G (i + 1)) (xs G (i + 2)) n hHI Q.2.1 j2.1 j2.2) (fun y S2 h2 R2 hm => ?_)
  obtain ⟨rfl, q2⟩ := R2
  refine ax_icmp_eq (tgt := 1104) dL_law_680 (by decide) (fun _ => ?_) (fun ne => absurd rfl ne)
  refine ax_budget (mc' := mc) (ms' := ms) (by omega) (by omega) ?_
  have c9 : clK S S1 := cl_s ht6 q1
  have m9 : mdK S S2 := md_s q2
  exact K Q _ h2 (bp_sync hc hm (shd_of c9 m9)) hx (INV.go (hI) (by omega) (agr_of c9 m9))
set_option maxHeartbeats 1000000 in
set_option maxRecDepth 100000 in
theorem law_knit (G : Gt) (rm x i mc ms B : Nat) (Q : Qt) (S : MS) (h : Ht) (Post : Option Value → Ht → Prop) (hi : i + 6 ≤ gA G 8) (hL : gA G 8 ≤ 384) (hB9 : 99 ≤ B) (hB : B ≤ 39000) (hx : Q.1 0 0 = x) (hp : BP G rm Q S h) (hI : INV S Q.2.1 Q.2.2 B) (K : ∀ (Q' : Qt) (S' : MS) (h' : Ht), BP G rm Q' S' h' → Q'.1 0 0 = x → INV S' Q'.2.1 Q'.2.2 (B + 100) → AX G 60 YL 1104 [some (.ref (gA G 7)), some (.ref x), some (.ref rm), some (.int (nI i))] [] h' mc ms Post) : AX G 60 YL 685 [some (.ref (gA G 7)), some (.ref x), some (.ref rm), some (.int (nI i))] [] h (5 + mc) (333 + ms) Post := by
  obtain ⟨n, t, tp, kh, kc, kt, hCH, hHI, j1, j2, j3, j4, j5, j6, j7, j9, j10, j11, j12, j13, ht6⟩ := inv_all hI (by omega)
  have h49 : ∀ j, j ≤ 3 → ∃ q, q ≤ 40 ∧ S 49 j = nI q := fun j hj => by obtain ⟨-, w, w1, w2, -⟩ := j13 j (by omega); exact ⟨w, w1, w2⟩
  refine ax_aload_n dL_law_685 rfl rfl ?_
  refine ly_arg (i := i) (k := 1) dL_law_686 dL_law_687 dL_law_688 rfl dL_law_689 dL_law_690 rfl rfl (by omega) hL ?_
  refine ly_arg (i := i) (k := 2) dL_law_691 dL_law_692 dL_law_693 rfl dL_law_694 dL_law_695 rfl rfl (by omega) hL ?_
  refine ly_arg (i := i) (k := 3) dL_law_696 dL_law_697 dL_law_698 rfl dL_law_699 dL_law_700 rfl rfl (by omega) hL ?_
  refine ly_C (av := [.int (xs G (i + 1)), .int (xs G (i + 2)), .int (xs G (i + 3))]) hp.1 hx dL_law_701 lL_80 rfl rfl rfl (by decide) (Nat.le_of_ble_eq_true rfl) (c_X11_knit G (rg rm) h.2 Q S (xs G (i + 1)) (xs G (i + 2)) (xs G (i + 3)) n t hCH) (fun v S1 h1 R1 hc => ?_)
  obtain ⟨rfl, q1⟩ := R1
  refine ax_aload_n dL_law_704 rfl rfl ?_
  refine ly_arg (i := i) (k := 1) dL_law_705 dL_law_706 dL_law_707 rfl dL_law_708 dL_law_709 rfl rfl (by omega) hL ?_
  refine ly_arg (i := i) (k := 2) dL_law_710 dL_law_711 dL_law_712 rfl dL_law_713 dL_law_714 rfl rfl (by omega) hL ?_
  refine ly_arg (i := i) (k := 3) dL_law_715 dL_law_716 dL_law_717 rfl dL_law_718 dL_law_719 rfl rfl (by omega) hL ?_
  refine ly_M (av := [.int (xs G (i + 1)), .int (xs G (i + 2)), .int (xs G (i + 3))]) (bp_m hp hc) dL_law_720 lL_83 rfl rfl rfl (by decide) (Nat.le_of_ble_eq_true rfl) (c_X12_knit G rm h1 S (xs G (i + 1)) (xs G (i + 2)) (xs G (i + 3)) n hHI Q.2.1 j2.1 j2.2) (fun y S2 h2 R2 hm => ?_)
  obtain ⟨rfl, q2⟩ := R2
  refine ax_icmp_eq (tgt := 1104) dL_law_723 (by decide) (fun _ => ?_) (fun ne => absurd rfl ne)
  refine ax_budget (mc' := mc) (ms' := ms) (by omega) (by omega) ?_
  have c9 : clK (f_knit S (xs G (i + 1)) (xs G (i + 2)) (xs G (i + 3))).2 S1 := cl_s ht6 q1
  have m9 : mdK (f_knit S (xs G (i + 1)) (xs G (i + 2)) (xs G (i + 3))).2 S2 := md_s q2
  exact K Q _ h2 (bp_sync hc hm (shd_of c9 m9)) hx (INV.go (inv_knit hI (by omega)) (by omega) (agr_of c9 m9))
set_option maxHeartbeats 1000000 in
set_option maxRecDepth 100000 in
theorem law_undo (G : Gt) (rm x i mc ms B : Nat) (Q : Qt) (S : MS) (h : Ht) (Post : Option Value → Ht → Prop) (hi : i + 6 ≤ gA G 8) (hL : gA G 8 ≤ 384) (hB9 : 99 ≤ B) (hB : B ≤ 39000) (hx : Q.1 0 0 = x) (hp : BP G rm Q S h) (hI : INV S Q.2.1 Q.2.2 B) (K : ∀ (Q' : Qt) (S' : MS) (h' : Ht), BP G rm Q' S' h' → Q'.1 0 0 = x → INV S' Q'.2.1 Q'.2.2 (B + 100) → AX G 60 YL 1104 [some (.ref (gA G 7)), some (.ref x), some (.ref rm), some (.int (nI i))] [] h' mc ms Post) : AX G 60 YL 728 [some (.ref (gA G 7)), some (.ref x), some (.ref rm), some (.int (nI i))] [] h (5 + mc) (333 + ms) Post := by
  obtain ⟨n, t, tp, kh, kc, kt, hCH, hHI, j1, j2, j3, j4, j5, j6, j7, j9, j10, j11, j12, j13, ht6⟩ := inv_all hI (by omega)
  have h49 : ∀ j, j ≤ 3 → ∃ q, q ≤ 40 ∧ S 49 j = nI q := fun j hj => by obtain ⟨-, w, w1, w2, -⟩ := j13 j (by omega); exact ⟨w, w1, w2⟩
  refine ax_aload_n dL_law_728 rfl rfl ?_
  refine ly_arg (i := i) (k := 1) dL_law_729 dL_law_730 dL_law_731 rfl dL_law_732 dL_law_733 rfl rfl (by omega) hL ?_
  refine ly_C (av := [.int (xs G (i + 1))]) hp.1 hx dL_law_734 lL_84 rfl rfl rfl (by decide) (Nat.le_of_ble_eq_true rfl) (c_X11_undo G (rg rm) h.2 Q S (xs G (i + 1)) n t hCH (fun k hk => (j11 k (by have := j2.2; omega)).2.2.1)) (fun v S1 h1 R1 hc => ?_)
  obtain ⟨rfl, q1⟩ := R1
  refine ax_aload_n dL_law_737 rfl rfl ?_
  refine ly_arg (i := i) (k := 1) dL_law_738 dL_law_739 dL_law_740 rfl dL_law_741 dL_law_742 rfl rfl (by omega) hL ?_
  refine ly_M (av := [.int (xs G (i + 1))]) (bp_m hp hc) dL_law_743 lL_87 rfl rfl rfl (by decide) (Nat.le_of_ble_eq_true rfl) (c_X12_undo G rm h1 S (xs G (i + 1)) Q.2.1 j2.1 j2.2 (fun k hk => (j11 k hk).2.2.1)) (fun y S2 h2 R2 hm => ?_)
  obtain ⟨rfl, q2⟩ := R2
  refine ax_icmp_eq (tgt := 1104) dL_law_746 (by decide) (fun _ => ?_) (fun ne => absurd rfl ne)
  refine ax_budget (mc' := mc) (ms' := ms) (by omega) (by omega) ?_
  have c9 : clK (f_undo S (xs G (i + 1))).2 S1 := cl_eq q1
  have m9 : mdK (f_undo S (xs G (i + 1))).2 S2 := md_s q2
  exact K Q _ h2 (bp_sync hc hm (shd_of c9 m9)) hx (INV.go (inv_undo hI (Nat.le_refl _)) (by omega) (agr_of c9 m9))
set_option maxHeartbeats 1000000 in
set_option maxRecDepth 100000 in
theorem law_most (G : Gt) (rm x i mc ms B : Nat) (Q : Qt) (S : MS) (h : Ht) (Post : Option Value → Ht → Prop) (hi : i + 6 ≤ gA G 8) (hL : gA G 8 ≤ 384) (hB9 : 99 ≤ B) (hB : B ≤ 39000) (hx : Q.1 0 0 = x) (hp : BP G rm Q S h) (hI : INV S Q.2.1 Q.2.2 B) (K : ∀ (Q' : Qt) (S' : MS) (h' : Ht), BP G rm Q' S' h' → Q'.1 0 0 = x → INV S' Q'.2.1 Q'.2.2 (B + 100) → AX G 60 YL 1104 [some (.ref (gA G 7)), some (.ref x), some (.ref rm), some (.int (nI i))] [] h' mc ms Post) : AX G 60 YL 751 [some (.ref (gA G 7)), some (.ref x), some (.ref rm), some (.int (nI i))] [] h (5 + mc) (333 + ms) Post := by
  obtain ⟨n, t, tp, kh, kc, kt, hCH, hHI, j1, j2, j3, j4, j5, j6, j7, j9, j10, j11, j12, j13, ht6⟩ := inv_all hI (by omega)
  have h49 : ∀ j, j ≤ 3 → ∃ q, q ≤ 40 ∧ S 49 j = nI q := fun j hj => by obtain ⟨-, w, w1, w2, -⟩ := j13 j (by omega); exact ⟨w, w1, w2⟩
  refine ax_aload_n dL_law_751 rfl rfl ?_
  refine ly_arg (i := i) (k := 1) dL_law_752 dL_law_753 dL_law_754 rfl dL_law_755 dL_law_756 rfl rfl (by omega) hL ?_
  refine ly_C (av := [.int (xs G (i + 1))]) hp.1 hx dL_law_757 lL_88 rfl rfl rfl (by decide) (Nat.le_of_ble_eq_true rfl) (c_X11_most G (rg rm) h.2 Q S (xs G (i + 1)) n t hCH) (fun v S1 h1 R1 hc => ?_)
  obtain ⟨rfl, q1⟩ := R1
  refine ax_aload_n dL_law_760 rfl rfl ?_
  refine ly_arg (i := i) (k := 1) dL_law_761 dL_law_762 dL_law_763 rfl dL_law_764 dL_law_765 rfl rfl (by omega) hL ?_
  refine ly_M (av := [.int (xs G (i + 1))]) (bp_m hp hc) dL_law_766 lL_91 rfl rfl rfl (by decide) (Nat.le_of_ble_eq_true rfl) (c_X12_most G rm h1 S (xs G (i + 1)) n hHI Q.2.1 j2.1 j2.2) (fun y S2 h2 R2 hm => ?_)
  obtain ⟨rfl, q2⟩ := R2
  refine ax_icmp_eq (tgt := 1104) dL_law_769 (by decide) (fun _ => ?_) (fun ne => absurd rfl ne)
  refine ax_budget (mc' := mc) (ms' := ms) (by omega) (by omega) ?_
  have c9 : clK S S1 := cl_q ht6 q1
  have m9 : mdK S S2 := md_s q2
  exact K Q _ h2 (bp_sync hc hm (shd_of c9 m9)) hx (INV.go (hI) (by omega) (agr_of c9 m9))
set_option maxHeartbeats 1000000 in
set_option maxRecDepth 100000 in
theorem law_more (G : Gt) (rm x i mc ms B : Nat) (Q : Qt) (S : MS) (h : Ht) (Post : Option Value → Ht → Prop) (hi : i + 6 ≤ gA G 8) (hL : gA G 8 ≤ 384) (hB9 : 99 ≤ B) (hB : B ≤ 39000) (hx : Q.1 0 0 = x) (hp : BP G rm Q S h) (hI : INV S Q.2.1 Q.2.2 B) (K : ∀ (Q' : Qt) (S' : MS) (h' : Ht), BP G rm Q' S' h' → Q'.1 0 0 = x → INV S' Q'.2.1 Q'.2.2 (B + 100) → AX G 60 YL 1104 [some (.ref (gA G 7)), some (.ref x), some (.ref rm), some (.int (nI i))] [] h' mc ms Post) : AX G 60 YL 774 [some (.ref (gA G 7)), some (.ref x), some (.ref rm), some (.int (nI i))] [] h (5 + mc) (333 + ms) Post := by
  obtain ⟨n, t, tp, kh, kc, kt, hCH, hHI, j1, j2, j3, j4, j5, j6, j7, j9, j10, j11, j12, j13, ht6⟩ := inv_all hI (by omega)
  have h49 : ∀ j, j ≤ 3 → ∃ q, q ≤ 40 ∧ S 49 j = nI q := fun j hj => by obtain ⟨-, w, w1, w2, -⟩ := j13 j (by omega); exact ⟨w, w1, w2⟩
  refine ax_aload_n dL_law_774 rfl rfl ?_
  refine ly_arg (i := i) (k := 1) dL_law_775 dL_law_776 dL_law_777 rfl dL_law_778 dL_law_779 rfl rfl (by omega) hL ?_
  refine ly_C (av := [.int (xs G (i + 1))]) hp.1 hx dL_law_780 lL_92 rfl rfl rfl (by decide) (Nat.le_of_ble_eq_true rfl) (c_X11_more G (rg rm) h.2 Q S (xs G (i + 1)) n t hCH (fun k hk => by obtain ⟨a, a1, a2⟩ := (j7 k (by have := j1.2; omega)).1; exact ⟨a, by omega, a2⟩)) (fun v S1 h1 R1 hc => ?_)
  obtain ⟨rfl, q1⟩ := R1
  refine ax_aload_n dL_law_783 rfl rfl ?_
  refine ly_arg (i := i) (k := 1) dL_law_784 dL_law_785 dL_law_786 rfl dL_law_787 dL_law_788 rfl rfl (by omega) hL ?_
  refine ly_M (av := [.int (xs G (i + 1))]) (bp_m hp hc) dL_law_789 lL_95 rfl rfl rfl (by decide) (Nat.le_of_ble_eq_true rfl) (c_X12_more G rm h1 S (xs G (i + 1)) n hHI Q.2.1 j2.1 j2.2) (fun y S2 h2 R2 hm => ?_)
  obtain ⟨rfl, q2⟩ := R2
  refine ax_icmp_eq (tgt := 1104) dL_law_792 (by decide) (fun _ => ?_) (fun ne => absurd rfl ne)
  refine ax_budget (mc' := mc) (ms' := ms) (by omega) (by omega) ?_
  have c9 : clK S S1 := cl_q ht6 q1
  have m9 : mdK S S2 := md_s q2
  exact K Q _ h2 (bp_sync hc hm (shd_of c9 m9)) hx (INV.go (hI) (by omega) (agr_of c9 m9))
set_option maxHeartbeats 1000000 in
set_option maxRecDepth 100000 in
theorem law_late (G : Gt) (rm x i mc ms B : Nat) (Q : Qt) (S : MS) (h : Ht) (Post : Option Value → Ht → Prop) (hi : i + 6 ≤ gA G 8) (hL : gA G 8 ≤ 384) (hB9 : 99 ≤ B) (hB : B ≤ 39000) (hx : Q.1 0 0 = x) (hp : BP G rm Q S h) (hI : INV S Q.2.1 Q.2.2 B) (K : ∀ (Q' : Qt) (S' : MS) (h' : Ht), BP G rm Q' S' h' → Q'.1 0 0 = x → INV S' Q'.2.1 Q'.2.2 (B + 100) → AX G 60 YL 1104 [some (.ref (gA G 7)), some (.ref x), some (.ref rm), some (.int (nI i))] [] h' mc ms Post) : AX G 60 YL 797 [some (.ref (gA G 7)), some (.ref x), some (.ref rm), some (.int (nI i))] [] h (5 + mc) (333 + ms) Post := by
  obtain ⟨n, t, tp, kh, kc, kt, hCH, hHI, j1, j2, j3, j4, j5, j6, j7, j9, j10, j11, j12, j13, ht6⟩ := inv_all hI (by omega)
  have h49 : ∀ j, j ≤ 3 → ∃ q, q ≤ 40 ∧ S 49 j = nI q := fun j hj => by obtain ⟨-, w, w1, w2, -⟩ := j13 j (by omega); exact ⟨w, w1, w2⟩
  refine ax_aload_n dL_law_797 rfl rfl ?_
  refine ly_arg (i := i) (k := 1) dL_law_798 dL_law_799 dL_law_800 rfl dL_law_801 dL_law_802 rfl rfl (by omega) hL ?_
  refine ly_C (av := [.int (xs G (i + 1))]) hp.1 hx dL_law_803 lL_96 rfl rfl rfl (by decide) (Nat.le_of_ble_eq_true rfl) (c_X11_late G (rg rm) h.2 Q S (xs G (i + 1)) n t hCH) (fun v S1 h1 R1 hc => ?_)
  obtain ⟨rfl, q1⟩ := R1
  refine ax_aload_n dL_law_806 rfl rfl ?_
  refine ly_arg (i := i) (k := 1) dL_law_807 dL_law_808 dL_law_809 rfl dL_law_810 dL_law_811 rfl rfl (by omega) hL ?_
  refine ly_M (av := [.int (xs G (i + 1))]) (bp_m hp hc) dL_law_812 lL_99 rfl rfl rfl (by decide) (Nat.le_of_ble_eq_true rfl) (c_X12_late G rm h1 S (xs G (i + 1)) Q.2.1 j2.1 j2.2) (fun y S2 h2 R2 hm => ?_)
  obtain ⟨rfl, q2⟩ := R2
  refine ax_icmp_eq (tgt := 1104) dL_law_815 (by decide) (fun _ => ?_) (fun ne => absurd rfl ne)
  refine ax_budget (mc' := mc) (ms' := ms) (by omega) (by omega) ?_
  have c9 : clK S S1 := cl_eq q1
  have m9 : mdK S S2 := md_eq q2
  exact K Q _ h2 (bp_sync hc hm (shd_of c9 m9)) hx (INV.go (hI) (by omega) (agr_of c9 m9))
set_option maxHeartbeats 1000000 in
set_option maxRecDepth 100000 in
theorem law_image (G : Gt) (rm x i mc ms B : Nat) (Q : Qt) (S : MS) (h : Ht) (Post : Option Value → Ht → Prop) (hi : i + 6 ≤ gA G 8) (hL : gA G 8 ≤ 384) (hB9 : 99 ≤ B) (hB : B ≤ 39000) (hx : Q.1 0 0 = x) (hp : BP G rm Q S h) (hI : INV S Q.2.1 Q.2.2 B) (K : ∀ (Q' : Qt) (S' : MS) (h' : Ht), BP G rm Q' S' h' → Q'.1 0 0 = x → INV S' Q'.2.1 Q'.2.2 (B + 100) → AX G 60 YL 1104 [some (.ref (gA G 7)), some (.ref x), some (.ref rm), some (.int (nI i))] [] h' mc ms Post) : AX G 60 YL 820 [some (.ref (gA G 7)), some (.ref x), some (.ref rm), some (.int (nI i))] [] h (5 + mc) (333 + ms) Post := by
  obtain ⟨n, t, tp, kh, kc, kt, hCH, hHI, j1, j2, j3, j4, j5, j6, j7, j9, j10, j11, j12, j13, ht6⟩ := inv_all hI (by omega)
  have h49 : ∀ j, j ≤ 3 → ∃ q, q ≤ 40 ∧ S 49 j = nI q := fun j hj => by obtain ⟨-, w, w1, w2, -⟩ := j13 j (by omega); exact ⟨w, w1, w2⟩
  refine ax_aload_n dL_law_820 rfl rfl ?_
  refine ly_C (av := []) hp.1 hx dL_law_821 lL_100 rfl rfl rfl (by decide) (Nat.le_of_ble_eq_true rfl) (c_X11_image G (rg rm) h.2 Q S  n t hCH (fun k hk => (j11 k hk).1) j10) (fun v S1 h1 R1 hc => ?_)
  obtain ⟨rfl, q1⟩ := R1
  refine ax_aload_n dL_law_824 rfl rfl ?_
  refine ly_M (av := []) (bp_m hp hc) dL_law_825 lL_103 rfl rfl rfl (by decide) (Nat.le_of_ble_eq_true rfl) (c_X12_image G rm h1 S  Q.2.1 j2.1 j2.2 (fun k hk => (j11 k hk).1)) (fun y S2 h2 R2 hm => ?_)
  obtain ⟨rfl, q2⟩ := R2
  refine ax_icmp_eq (tgt := 1104) dL_law_828 (by decide) (fun _ => ?_) (fun ne => absurd rfl ne)
  refine ax_budget (mc' := mc) (ms' := ms) (by omega) (by omega) ?_
  have c9 : clK (f_image S).2 S1 := cl_eq q1
  have m9 : mdK (f_image S).2 S2 := md_eq q2
  exact K Q _ h2 (bp_sync hc hm (shd_of c9 m9)) hx (INV.go (inv_image hI) (by omega) (agr_of c9 m9))
set_option maxHeartbeats 1000000 in
set_option maxRecDepth 100000 in
theorem law_back (G : Gt) (rm x i mc ms B : Nat) (Q : Qt) (S : MS) (h : Ht) (Post : Option Value → Ht → Prop) (hi : i + 6 ≤ gA G 8) (hL : gA G 8 ≤ 384) (hB9 : 99 ≤ B) (hB : B ≤ 39000) (hx : Q.1 0 0 = x) (hp : BP G rm Q S h) (hI : INV S Q.2.1 Q.2.2 B) (K : ∀ (Q' : Qt) (S' : MS) (h' : Ht), BP G rm Q' S' h' → Q'.1 0 0 = x → INV S' Q'.2.1 Q'.2.2 (B + 100) → AX G 60 YL 1104 [some (.ref (gA G 7)), some (.ref x), some (.ref rm), some (.int (nI i))] [] h' mc ms Post) : AX G 60 YL 833 [some (.ref (gA G 7)), some (.ref x), some (.ref rm), some (.int (nI i))] [] h (5 + mc) (333 + ms) Post := by
  obtain ⟨n, t, tp, kh, kc, kt, hCH, hHI, j1, j2, j3, j4, j5, j6, j7, j9, j10, j11, j12, j13, ht6⟩ := inv_all hI (by omega)
  have h49 : ∀ j, j ≤ 3 → ∃ q, q ≤ 40 ∧ S 49 j = nI q := fun j hj => by obtain ⟨-, w, w1, w2, -⟩ := j13 j (by omega); exact ⟨w, w1, w2⟩
  refine ax_aload_n dL_law_833 rfl rfl ?_
  refine ly_C (av := []) hp.1 hx dL_law_834 lL_104 rfl rfl rfl (by decide) (Nat.le_of_ble_eq_true rfl) (c_X11_back G (rg rm) h.2 Q S  n t kh kc kt hCH (fun k hk => (j11 k hk).2.1) j12.1 j12.2.1 j12.2.2.1 j12.2.2.2.1 j12.2.2.2.2.1 j12.2.2.2.2.2.1) (fun v S1 h1 R1 hc => ?_)
  obtain ⟨rfl, q1⟩ := R1
  refine ax_aload_n dL_law_837 rfl rfl ?_
  refine ly_M (av := []) (bp_m hp hc) dL_law_838 lL_107 rfl rfl rfl (by decide) (Nat.le_of_ble_eq_true rfl) (c_X12_back G rm h1 S  Q.2.1 j2.1 j2.2 kh kc j12.1 j12.2.1 j12.2.2.1 (by have := j12.2.2.2.1; have := j2.2; omega) (fun k hk => (j11 k hk).2.1)) (fun y S2 h2 R2 hm => ?_)
  obtain ⟨rfl, q2⟩ := R2
  refine ax_icmp_eq (tgt := 1104) dL_law_841 (by decide) (fun _ => ?_) (fun ne => absurd rfl ne)
  refine ax_budget (mc' := mc) (ms' := ms) (by omega) (by omega) ?_
  have c9 : clK S1 S1 := cl_eq rfl
  have m9 : mdK S1 S2 := fun k hk => by rw [q2]; exact (q1.1 k (by simp only [List.mem_cons, List.not_mem_nil, or_false]; omega)).symm
  exact K Q _ h2 (bp_sync hc hm (shd_of c9 m9)) hx (INV.go (inv_back hI q1.1 q1.2) (by omega) (agr_of c9 m9))
set_option maxHeartbeats 1000000 in
set_option maxRecDepth 100000 in
theorem law_count (G : Gt) (rm x i mc ms B : Nat) (Q : Qt) (S : MS) (h : Ht) (Post : Option Value → Ht → Prop) (hi : i + 6 ≤ gA G 8) (hL : gA G 8 ≤ 384) (hB9 : 99 ≤ B) (hB : B ≤ 39000) (hx : Q.1 0 0 = x) (hp : BP G rm Q S h) (hI : INV S Q.2.1 Q.2.2 B) (K : ∀ (Q' : Qt) (S' : MS) (h' : Ht), BP G rm Q' S' h' → Q'.1 0 0 = x → INV S' Q'.2.1 Q'.2.2 (B + 100) → AX G 60 YL 1104 [some (.ref (gA G 7)), some (.ref x), some (.ref rm), some (.int (nI i))] [] h' mc ms Post) : AX G 60 YL 846 [some (.ref (gA G 7)), some (.ref x), some (.ref rm), some (.int (nI i))] [] h (5 + mc) (333 + ms) Post := by
  obtain ⟨n, t, tp, kh, kc, kt, hCH, hHI, j1, j2, j3, j4, j5, j6, j7, j9, j10, j11, j12, j13, ht6⟩ := inv_all hI (by omega)
  have h49 : ∀ j, j ≤ 3 → ∃ q, q ≤ 40 ∧ S 49 j = nI q := fun j hj => by obtain ⟨-, w, w1, w2, -⟩ := j13 j (by omega); exact ⟨w, w1, w2⟩
  refine ax_aload_n dL_law_846 rfl rfl ?_
  refine ly_arg (i := i) (k := 1) dL_law_847 dL_law_848 dL_law_849 rfl dL_law_850 dL_law_851 rfl rfl (by omega) hL ?_
  refine ly_C (av := [.int (xs G (i + 1))]) hp.1 hx dL_law_852 lL_108 rfl rfl rfl (by decide) (Nat.le_of_ble_eq_true rfl) (c_X11_count G (rg rm) h.2 Q S (xs G (i + 1)) n t hCH) (fun v S1 h1 R1 hc => ?_)
  obtain ⟨rfl, q1⟩ := R1
  refine ax_aload_n dL_law_855 rfl rfl ?_
  refine ly_arg (i := i) (k := 1) dL_law_856 dL_law_857 dL_law_858 rfl dL_law_859 dL_law_860 rfl rfl (by omega) hL ?_
  refine ly_M (av := [.int (xs G (i + 1))]) (bp_m hp hc) dL_law_861 lL_111 rfl rfl rfl (by decide) (Nat.le_of_ble_eq_true rfl) (c_X12_count G rm h1 S (xs G (i + 1)) n hHI Q.2.1 j2.1 j2.2) (fun y S2 h2 R2 hm => ?_)
  obtain ⟨rfl, q2⟩ := R2
  refine ax_icmp_eq (tgt := 1104) dL_law_864 (by decide) (fun _ => ?_) (fun ne => absurd rfl ne)
  refine ax_budget (mc' := mc) (ms' := ms) (by omega) (by omega) ?_
  have c9 : clK S S1 := cl_2 ht6 q1
  have m9 : mdK S S2 := md_s q2
  exact K Q _ h2 (bp_sync hc hm (shd_of c9 m9)) hx (INV.go (hI) (by omega) (agr_of c9 m9))
set_option maxHeartbeats 1000000 in
set_option maxRecDepth 100000 in
theorem law_sheet (G : Gt) (rm x i mc ms B : Nat) (Q : Qt) (S : MS) (h : Ht) (Post : Option Value → Ht → Prop) (hi : i + 6 ≤ gA G 8) (hL : gA G 8 ≤ 384) (hB9 : 99 ≤ B) (hB : B ≤ 39000) (hx : Q.1 0 0 = x) (hp : BP G rm Q S h) (hI : INV S Q.2.1 Q.2.2 B) (K : ∀ (Q' : Qt) (S' : MS) (h' : Ht), BP G rm Q' S' h' → Q'.1 0 0 = x → INV S' Q'.2.1 Q'.2.2 (B + 100) → AX G 60 YL 1104 [some (.ref (gA G 7)), some (.ref x), some (.ref rm), some (.int (nI i))] [] h' mc ms Post) : AX G 60 YL 869 [some (.ref (gA G 7)), some (.ref x), some (.ref rm), some (.int (nI i))] [] h (5 + mc) (333 + ms) Post := by
  obtain ⟨n, t, tp, kh, kc, kt, hCH, hHI, j1, j2, j3, j4, j5, j6, j7, j9, j10, j11, j12, j13, ht6⟩ := inv_all hI (by omega)
  have h49 : ∀ j, j ≤ 3 → ∃ q, q ≤ 40 ∧ S 49 j = nI q := fun j hj => by obtain ⟨-, w, w1, w2, -⟩ := j13 j (by omega); exact ⟨w, w1, w2⟩
  refine ax_aload_n dL_law_869 rfl rfl ?_
  refine ly_arg (i := i) (k := 1) dL_law_870 dL_law_871 dL_law_872 rfl dL_law_873 dL_law_874 rfl rfl (by omega) hL ?_
  refine ly_arg (i := i) (k := 2) dL_law_875 dL_law_876 dL_law_877 rfl dL_law_878 dL_law_879 rfl rfl (by omega) hL ?_
  refine ly_arg (i := i) (k := 3) dL_law_880 dL_law_881 dL_law_882 rfl dL_law_883 dL_law_884 rfl rfl (by omega) hL ?_
  refine ly_C (av := [.int (xs G (i + 1)), .int (xs G (i + 2)), .int (xs G (i + 3))]) hp.1 hx dL_law_885 lL_112 rfl rfl rfl (by decide) (Nat.le_of_ble_eq_true rfl) (c_X11_sheet G (rg rm) h.2 Q S (xs G (i + 1)) (xs G (i + 2)) (xs G (i + 3)) ) (fun v S1 h1 R1 hc => ?_)
  obtain ⟨rfl, q1⟩ := R1
  refine ax_aload_n dL_law_888 rfl rfl ?_
  refine ly_arg (i := i) (k := 1) dL_law_889 dL_law_890 dL_law_891 rfl dL_law_892 dL_law_893 rfl rfl (by omega) hL ?_
  refine ly_arg (i := i) (k := 2) dL_law_894 dL_law_895 dL_law_896 rfl dL_law_897 dL_law_898 rfl rfl (by omega) hL ?_
  refine ly_arg (i := i) (k := 3) dL_law_899 dL_law_900 dL_law_901 rfl dL_law_902 dL_law_903 rfl rfl (by omega) hL ?_
  refine ly_M (av := [.int (xs G (i + 1)), .int (xs G (i + 2)), .int (xs G (i + 3))]) (bp_m hp hc) dL_law_904 lL_115 rfl rfl rfl (by decide) (Nat.le_of_ble_eq_true rfl) (c_X12_sheet G rm h1 S (xs G (i + 1)) (xs G (i + 2)) (xs G (i + 3)) ) (fun y S2 h2 R2 hm => ?_)
  obtain ⟨rfl, q2⟩ := R2
  refine ax_icmp_eq (tgt := 1104) dL_law_907 (by decide) (fun _ => ?_) (fun ne => absurd rfl ne)
  refine ax_budget (mc' := mc) (ms' := ms) (by omega) (by omega) ?_
  obtain ⟨r1, r2, r3⟩ := sheet_rel (s := xs G (i + 1)) (srt := xs G (i + 2)) (n := xs G (i + 3)) j13
  have hfS : ∀ k, k ≠ 48 → k ≠ 49 → k ≠ 50 → k ≠ 51 → (f_sheet S (xs G (i + 1)) (xs G (i + 2)) (xs G (i + 3))).2 k = S k := fun k w1 w2 w3 w4 => by
      unfold f_sheet
      split
      · rfl
      · split
        · exact up2_ne w1
        · split
          · rfl
          · split
            · rfl
            · exact (setA_ne w3).trans ((up2_ne w2).trans (up2_ne w1))
  have c9 : clK (shT (f_sheet S (xs G (i + 1)) (xs G (i + 2)) (xs G (i + 3))).2 (g_sheet S (xs G (i + 1)) (xs G (i + 2)) (xs G (i + 3)))) S1 := fun k hk => by rw [q1]; exact (r2 k (by simp only [List.mem_cons, List.not_mem_nil, or_false]; omega)).symm
  have m9 : mdK (shT (f_sheet S (xs G (i + 1)) (xs G (i + 2)) (xs G (i + 3))).2 (g_sheet S (xs G (i + 1)) (xs G (i + 2)) (xs G (i + 3)))) S2 := fun k hk => by
    rw [q2]
    exact (r1 k (fun w => by simp only [R4, List.mem_cons, List.not_mem_nil, or_false] at w; omega)).symm
  have hIF : INV (shT (f_sheet S (xs G (i + 1)) (xs G (i + 2)) (xs G (i + 3))).2 (g_sheet S (xs G (i + 1)) (xs G (i + 2)) (xs G (i + 3)))) Q.2.1 Q.2.2 B := inv_sheets hI (fun k w1 w2 w3 w4 w5 => (r1 k (fun w => by simp only [R4, List.mem_cons, List.not_mem_nil, or_false] at w; omega)).trans (hfS k w1 w2 w3 w4)) r3
  exact K Q _ h2 (bp_sync hc hm (shd_of c9 m9)) hx (INV.go hIF (by omega) (agr_of c9 m9))
set_option maxHeartbeats 1000000 in
set_option maxRecDepth 100000 in
theorem law_cell (G : Gt) (rm x i mc ms B : Nat) (Q : Qt) (S : MS) (h : Ht) (Post : Option Value → Ht → Prop) (hi : i + 6 ≤ gA G 8) (hL : gA G 8 ≤ 384) (hB9 : 99 ≤ B) (hB : B ≤ 39000) (hx : Q.1 0 0 = x) (hp : BP G rm Q S h) (hI : INV S Q.2.1 Q.2.2 B) (K : ∀ (Q' : Qt) (S' : MS) (h' : Ht), BP G rm Q' S' h' → Q'.1 0 0 = x → INV S' Q'.2.1 Q'.2.2 (B + 100) → AX G 60 YL 1104 [some (.ref (gA G 7)), some (.ref x), some (.ref rm), some (.int (nI i))] [] h' mc ms Post) : AX G 60 YL 912 [some (.ref (gA G 7)), some (.ref x), some (.ref rm), some (.int (nI i))] [] h (5 + mc) (333 + ms) Post := by
  obtain ⟨n, t, tp, kh, kc, kt, hCH, hHI, j1, j2, j3, j4, j5, j6, j7, j9, j10, j11, j12, j13, ht6⟩ := inv_all hI (by omega)
  have h49 : ∀ j, j ≤ 3 → ∃ q, q ≤ 40 ∧ S 49 j = nI q := fun j hj => by obtain ⟨-, w, w1, w2, -⟩ := j13 j (by omega); exact ⟨w, w1, w2⟩
  refine ax_aload_n dL_law_912 rfl rfl ?_
  refine ly_arg (i := i) (k := 1) dL_law_913 dL_law_914 dL_law_915 rfl dL_law_916 dL_law_917 rfl rfl (by omega) hL ?_
  refine ly_arg (i := i) (k := 2) dL_law_918 dL_law_919 dL_law_920 rfl dL_law_921 dL_law_922 rfl rfl (by omega) hL ?_
  refine ly_arg (i := i) (k := 3) dL_law_923 dL_law_924 dL_law_925 rfl dL_law_926 dL_law_927 rfl rfl (by omega) hL ?_
  refine ly_C (av := [.int (xs G (i + 1)), .int (xs G (i + 2)), .int (xs G (i + 3))]) hp.1 hx dL_law_928 lL_116 rfl rfl rfl (by decide) (Nat.le_of_ble_eq_true rfl) (c_X11_cell G (rg rm) h.2 Q S (xs G (i + 1)) (xs G (i + 2)) (xs G (i + 3)) j13) (fun v S1 h1 R1 hc => ?_)
  obtain ⟨rfl, q1⟩ := R1
  refine ax_aload_n dL_law_931 rfl rfl ?_
  refine ly_arg (i := i) (k := 1) dL_law_932 dL_law_933 dL_law_934 rfl dL_law_935 dL_law_936 rfl rfl (by omega) hL ?_
  refine ly_arg (i := i) (k := 2) dL_law_937 dL_law_938 dL_law_939 rfl dL_law_940 dL_law_941 rfl rfl (by omega) hL ?_
  refine ly_arg (i := i) (k := 3) dL_law_942 dL_law_943 dL_law_944 rfl dL_law_945 dL_law_946 rfl rfl (by omega) hL ?_
  refine ly_M (av := [.int (xs G (i + 1)), .int (xs G (i + 2)), .int (xs G (i + 3))]) (bp_m hp hc) dL_law_947 lL_119 rfl rfl rfl (by decide) (Nat.le_of_ble_eq_true rfl) (c_X12_cell G rm h1 S (xs G (i + 1)) (xs G (i + 2)) (xs G (i + 3)) h49) (fun y S2 h2 R2 hm => ?_)
  obtain ⟨rfl, q2⟩ := R2
  refine ax_icmp_eq (tgt := 1104) dL_law_950 (by decide) (fun _ => ?_) (fun ne => absurd rfl ne)
  refine ax_budget (mc' := mc) (ms' := ms) (by omega) (by omega) ?_
  obtain ⟨r1, r2, r3⟩ := cell_rel (s := xs G (i + 1)) (i := xs G (i + 2)) (v := xs G (i + 3)) j13
  have hfS : ∀ k, k ≠ 48 → k ≠ 49 → k ≠ 50 → k ≠ 51 → (f_cell S (xs G (i + 1)) (xs G (i + 2)) (xs G (i + 3))).2 k = S k := fun k w1 w2 w3 w4 => by
      unfold f_cell
      split
      · rfl
      · split
        · rfl
        · split
          · rfl
          · exact up2_ne w3
  have c9 : clK (shT (f_cell S (xs G (i + 1)) (xs G (i + 2)) (xs G (i + 3))).2 (g_cell S (xs G (i + 1)) (xs G (i + 2)) (xs G (i + 3)))) S1 := fun k hk => by rw [q1]; exact (r2 k (by simp only [List.mem_cons, List.not_mem_nil, or_false]; omega)).symm
  have m9 : mdK (shT (f_cell S (xs G (i + 1)) (xs G (i + 2)) (xs G (i + 3))).2 (g_cell S (xs G (i + 1)) (xs G (i + 2)) (xs G (i + 3)))) S2 := fun k hk => by
    rw [q2]
    exact (r1 k (fun w => by simp only [R4, List.mem_cons, List.not_mem_nil, or_false] at w; omega)).symm
  have hIF : INV (shT (f_cell S (xs G (i + 1)) (xs G (i + 2)) (xs G (i + 3))).2 (g_cell S (xs G (i + 1)) (xs G (i + 2)) (xs G (i + 3)))) Q.2.1 Q.2.2 B := inv_sheets hI (fun k w1 w2 w3 w4 w5 => (r1 k (fun w => by simp only [R4, List.mem_cons, List.not_mem_nil, or_false] at w; omega)).trans (hfS k w1 w2 w3 w4)) r3
  exact K Q _ h2 (bp_sync hc hm (shd_of c9 m9)) hx (INV.go hIF (by omega) (agr_of c9 m9))
set_option maxHeartbeats 1000000 in
set_option maxRecDepth 100000 in
theorem law_copy (G : Gt) (rm x i mc ms B : Nat) (Q : Qt) (S : MS) (h : Ht) (Post : Option Value → Ht → Prop) (hi : i + 6 ≤ gA G 8) (hL : gA G 8 ≤ 384) (hB9 : 99 ≤ B) (hB : B ≤ 39000) (hx : Q.1 0 0 = x) (hp : BP G rm Q S h) (hI : INV S Q.2.1 Q.2.2 B) (K : ∀ (Q' : Qt) (S' : MS) (h' : Ht), BP G rm Q' S' h' → Q'.1 0 0 = x → INV S' Q'.2.1 Q'.2.2 (B + 100) → AX G 60 YL 1104 [some (.ref (gA G 7)), some (.ref x), some (.ref rm), some (.int (nI i))] [] h' mc ms Post) : AX G 60 YL 955 [some (.ref (gA G 7)), some (.ref x), some (.ref rm), some (.int (nI i))] [] h (5 + mc) (333 + ms) Post := by
  obtain ⟨n, t, tp, kh, kc, kt, hCH, hHI, j1, j2, j3, j4, j5, j6, j7, j9, j10, j11, j12, j13, ht6⟩ := inv_all hI (by omega)
  have h49 : ∀ j, j ≤ 3 → ∃ q, q ≤ 40 ∧ S 49 j = nI q := fun j hj => by obtain ⟨-, w, w1, w2, -⟩ := j13 j (by omega); exact ⟨w, w1, w2⟩
  refine ax_aload_n dL_law_955 rfl rfl ?_
  refine ly_arg (i := i) (k := 1) dL_law_956 dL_law_957 dL_law_958 rfl dL_law_959 dL_law_960 rfl rfl (by omega) hL ?_
  refine ly_arg (i := i) (k := 2) dL_law_961 dL_law_962 dL_law_963 rfl dL_law_964 dL_law_965 rfl rfl (by omega) hL ?_
  refine ly_arg (i := i) (k := 3) dL_law_966 dL_law_967 dL_law_968 rfl dL_law_969 dL_law_970 rfl rfl (by omega) hL ?_
  refine ly_arg (i := i) (k := 4) dL_law_971 dL_law_972 dL_law_973 rfl dL_law_974 dL_law_975 rfl rfl (by omega) hL ?_
  refine ly_arg (i := i) (k := 5) dL_law_976 dL_law_977 dL_law_978 rfl dL_law_979 dL_law_980 rfl rfl (by omega) hL ?_
  refine ly_C (av := [.int (xs G (i + 1)), .int (xs G (i + 2)), .int (xs G (i + 3)), .int (xs G (i + 4)), .int (xs G (i + 5))]) hp.1 hx dL_law_981 lL_120 rfl rfl rfl (by decide) (Nat.le_of_ble_eq_true rfl) (c_X11_copy G (rg rm) h.2 Q S (xs G (i + 1)) (xs G (i + 2)) (xs G (i + 3)) (xs G (i + 4)) (xs G (i + 5)) j13) (fun v S1 h1 R1 hc => ?_)
  obtain ⟨rfl, q1⟩ := R1
  refine ax_aload_n dL_law_984 rfl rfl ?_
  refine ly_arg (i := i) (k := 1) dL_law_985 dL_law_986 dL_law_987 rfl dL_law_988 dL_law_989 rfl rfl (by omega) hL ?_
  refine ly_arg (i := i) (k := 2) dL_law_990 dL_law_991 dL_law_992 rfl dL_law_993 dL_law_994 rfl rfl (by omega) hL ?_
  refine ly_arg (i := i) (k := 3) dL_law_995 dL_law_996 dL_law_997 rfl dL_law_998 dL_law_999 rfl rfl (by omega) hL ?_
  refine ly_arg (i := i) (k := 4) dL_law_1000 dL_law_1001 dL_law_1002 rfl dL_law_1003 dL_law_1004 rfl rfl (by omega) hL ?_
  refine ly_arg (i := i) (k := 5) dL_law_1005 dL_law_1006 dL_law_1007 rfl dL_law_1008 dL_law_1009 rfl rfl (by omega) hL ?_
  refine ly_M (av := [.int (xs G (i + 1)), .int (xs G (i + 2)), .int (xs G (i + 3)), .int (xs G (i + 4)), .int (xs G (i + 5))]) (bp_m hp hc) dL_law_1010 lL_124 rfl rfl rfl (by decide) (Nat.le_of_ble_eq_true rfl) (c_X12_copy G rm h1 S (xs G (i + 1)) (xs G (i + 2)) (xs G (i + 3)) (xs G (i + 4)) (xs G (i + 5)) h49) (fun y S2 h2 R2 hm => ?_)
  obtain ⟨rfl, q2⟩ := R2
  refine ax_icmp_eq (tgt := 1104) dL_law_1013 (by decide) (fun _ => ?_) (fun ne => absurd rfl ne)
  refine ax_budget (mc' := mc) (ms' := ms) (by omega) (by omega) ?_
  obtain ⟨r1, r2, r3⟩ := copy_rel (s := xs G (i + 1)) (i := xs G (i + 2)) (oo := xs G (i + 3)) (jj := xs G (i + 4)) (n := xs G (i + 5)) j13
  have hfS : ∀ k, k ≠ 48 → k ≠ 49 → k ≠ 50 → k ≠ 51 → (f_copy S (xs G (i + 1)) (xs G (i + 2)) (xs G (i + 3)) (xs G (i + 4)) (xs G (i + 5))).2 k = S k := fun k w1 w2 w3 w4 => by
      unfold f_copy
      split
      · rfl
      · split
        · rfl
        · split
          · rfl
          · split
            · rfl
            · exact setA_ne w3
  have c9 : clK (shT (f_copy S (xs G (i + 1)) (xs G (i + 2)) (xs G (i + 3)) (xs G (i + 4)) (xs G (i + 5))).2 (g_copy S (xs G (i + 1)) (xs G (i + 2)) (xs G (i + 3)) (xs G (i + 4)) (xs G (i + 5)))) S1 := fun k hk => by rw [q1]; exact (r2 k (by simp only [List.mem_cons, List.not_mem_nil, or_false]; omega)).symm
  have m9 : mdK (shT (f_copy S (xs G (i + 1)) (xs G (i + 2)) (xs G (i + 3)) (xs G (i + 4)) (xs G (i + 5))).2 (g_copy S (xs G (i + 1)) (xs G (i + 2)) (xs G (i + 3)) (xs G (i + 4)) (xs G (i + 5)))) S2 := fun k hk => by
    rw [q2 k (by simp only [List.mem_cons, List.not_mem_nil, or_false]; omega)]
    exact (r1 k (fun w => by simp only [R4, List.mem_cons, List.not_mem_nil, or_false] at w; omega)).symm
  have hIF : INV (shT (f_copy S (xs G (i + 1)) (xs G (i + 2)) (xs G (i + 3)) (xs G (i + 4)) (xs G (i + 5))).2 (g_copy S (xs G (i + 1)) (xs G (i + 2)) (xs G (i + 3)) (xs G (i + 4)) (xs G (i + 5)))) Q.2.1 Q.2.2 B := inv_sheets hI (fun k w1 w2 w3 w4 w5 => (r1 k (fun w => by simp only [R4, List.mem_cons, List.not_mem_nil, or_false] at w; omega)).trans (hfS k w1 w2 w3 w4)) r3
  exact K Q _ h2 (bp_sync hc hm (shd_of c9 m9)) hx (INV.go hIF (by omega) (agr_of c9 m9))
set_option maxHeartbeats 1000000 in
set_option maxRecDepth 100000 in
theorem law_hanks (G : Gt) (rm x i mc ms B : Nat) (Q : Qt) (S : MS) (h : Ht) (Post : Option Value → Ht → Prop) (hi : i + 6 ≤ gA G 8) (hL : gA G 8 ≤ 384) (hB9 : 99 ≤ B) (hB : B ≤ 39000) (hx : Q.1 0 0 = x) (hp : BP G rm Q S h) (hI : INV S Q.2.1 Q.2.2 B) (K : ∀ (Q' : Qt) (S' : MS) (h' : Ht), BP G rm Q' S' h' → Q'.1 0 0 = x → INV S' Q'.2.1 Q'.2.2 (B + 100) → AX G 60 YL 1104 [some (.ref (gA G 7)), some (.ref x), some (.ref rm), some (.int (nI i))] [] h' mc ms Post) : AX G 60 YL 1018 [some (.ref (gA G 7)), some (.ref x), some (.ref rm), some (.int (nI i))] [] h (5 + mc) (333 + ms) Post := by
  obtain ⟨n, t, tp, kh, kc, kt, hCH, hHI, j1, j2, j3, j4, j5, j6, j7, j9, j10, j11, j12, j13, ht6⟩ := inv_all hI (by omega)
  have h49 : ∀ j, j ≤ 3 → ∃ q, q ≤ 40 ∧ S 49 j = nI q := fun j hj => by obtain ⟨-, w, w1, w2, -⟩ := j13 j (by omega); exact ⟨w, w1, w2⟩
  refine ax_aload_n dL_law_1018 rfl rfl ?_
  refine ly_arg (i := i) (k := 1) dL_law_1019 dL_law_1020 dL_law_1021 rfl dL_law_1022 dL_law_1023 rfl rfl (by omega) hL ?_
  refine ly_arg (i := i) (k := 2) dL_law_1024 dL_law_1025 dL_law_1026 rfl dL_law_1027 dL_law_1028 rfl rfl (by omega) hL ?_
  refine ly_arg (i := i) (k := 3) dL_law_1029 dL_law_1030 dL_law_1031 rfl dL_law_1032 dL_law_1033 rfl rfl (by omega) hL ?_
  refine ly_arg (i := i) (k := 4) dL_law_1034 dL_law_1035 dL_law_1036 rfl dL_law_1037 dL_law_1038 rfl rfl (by omega) hL ?_
  refine ly_C (av := [.int (xs G (i + 1)), .int (xs G (i + 2)), .int (xs G (i + 3)), .int (xs G (i + 4))]) hp.1 hx dL_law_1039 lL_125 rfl rfl rfl (by decide) (Nat.le_of_ble_eq_true rfl) (c_X11_hanks G (rg rm) h.2 Q S (xs G (i + 1)) (xs G (i + 2)) (xs G (i + 3)) (xs G (i + 4)) n j13 j1.1 j1.2) (fun v S1 h1 R1 hc => ?_)
  obtain ⟨rfl, q1⟩ := R1
  refine ax_aload_n dL_law_1042 rfl rfl ?_
  refine ly_arg (i := i) (k := 1) dL_law_1043 dL_law_1044 dL_law_1045 rfl dL_law_1046 dL_law_1047 rfl rfl (by omega) hL ?_
  refine ly_arg (i := i) (k := 2) dL_law_1048 dL_law_1049 dL_law_1050 rfl dL_law_1051 dL_law_1052 rfl rfl (by omega) hL ?_
  refine ly_arg (i := i) (k := 3) dL_law_1053 dL_law_1054 dL_law_1055 rfl dL_law_1056 dL_law_1057 rfl rfl (by omega) hL ?_
  refine ly_arg (i := i) (k := 4) dL_law_1058 dL_law_1059 dL_law_1060 rfl dL_law_1061 dL_law_1062 rfl rfl (by omega) hL ?_
  refine ly_M (av := [.int (xs G (i + 1)), .int (xs G (i + 2)), .int (xs G (i + 3)), .int (xs G (i + 4))]) (bp_m hp hc) dL_law_1063 lL_129 rfl rfl rfl (by decide) (Nat.le_of_ble_eq_true rfl) (c_X12_hanks G rm h1 S (xs G (i + 1)) (xs G (i + 2)) (xs G (i + 3)) (xs G (i + 4)) h49 ⟨n, j1.2, j1.1⟩) (fun y S2 h2 R2 hm => ?_)
  obtain ⟨rfl, q2⟩ := R2
  refine ax_icmp_eq (tgt := 1104) dL_law_1066 (by decide) (fun _ => ?_) (fun ne => absurd rfl ne)
  refine ax_budget (mc' := mc) (ms' := ms) (by omega) (by omega) ?_
  have c9 : clK (f_hanks S (xs G (i + 1)) (xs G (i + 2)) (xs G (i + 3)) (xs G (i + 4))).2 S1 := cl_eq q1
  have m9 : mdK (f_hanks S (xs G (i + 1)) (xs G (i + 2)) (xs G (i + 3)) (xs G (i + 4))).2 S2 := md_eq q2
  exact K Q _ h2 (bp_sync hc hm (shd_of c9 m9)) hx (INV.go (inv_hanks hI hB9) (by omega) (agr_of c9 m9))
set_option maxHeartbeats 1000000 in
set_option maxRecDepth 100000 in
theorem law_taken (G : Gt) (rm x i mc ms B : Nat) (Q : Qt) (S : MS) (h : Ht) (Post : Option Value → Ht → Prop) (hi : i + 6 ≤ gA G 8) (hL : gA G 8 ≤ 384) (hB9 : 99 ≤ B) (hB : B ≤ 39000) (hx : Q.1 0 0 = x) (hp : BP G rm Q S h) (hI : INV S Q.2.1 Q.2.2 B) (K : ∀ (Q' : Qt) (S' : MS) (h' : Ht), BP G rm Q' S' h' → Q'.1 0 0 = x → INV S' Q'.2.1 Q'.2.2 (B + 100) → AX G 60 YL 1104 [some (.ref (gA G 7)), some (.ref x), some (.ref rm), some (.int (nI i))] [] h' mc ms Post) : AX G 60 YL 1071 [some (.ref (gA G 7)), some (.ref x), some (.ref rm), some (.int (nI i))] [] h (5 + mc) (333 + ms) Post := by
  obtain ⟨n, t, tp, kh, kc, kt, hCH, hHI, j1, j2, j3, j4, j5, j6, j7, j9, j10, j11, j12, j13, ht6⟩ := inv_all hI (by omega)
  have h49 : ∀ j, j ≤ 3 → ∃ q, q ≤ 40 ∧ S 49 j = nI q := fun j hj => by obtain ⟨-, w, w1, w2, -⟩ := j13 j (by omega); exact ⟨w, w1, w2⟩
  refine ax_aload_n dL_law_1071 rfl rfl ?_
  refine ly_arg (i := i) (k := 1) dL_law_1072 dL_law_1073 dL_law_1074 rfl dL_law_1075 dL_law_1076 rfl rfl (by omega) hL ?_
  refine ly_arg (i := i) (k := 2) dL_law_1077 dL_law_1078 dL_law_1079 rfl dL_law_1080 dL_law_1081 rfl rfl (by omega) hL ?_
  refine ly_C (av := [.int (xs G (i + 1)), .int (xs G (i + 2))]) hp.1 hx dL_law_1082 lL_130 rfl rfl rfl (by decide) (Nat.le_of_ble_eq_true rfl) (c_X11_taken G (rg rm) h.2 Q S (xs G (i + 1)) (xs G (i + 2)) n t hCH) (fun v S1 h1 R1 hc => ?_)
  obtain ⟨rfl, q1⟩ := R1
  refine ax_aload_n dL_law_1085 rfl rfl ?_
  refine ly_arg (i := i) (k := 1) dL_law_1086 dL_law_1087 dL_law_1088 rfl dL_law_1089 dL_law_1090 rfl rfl (by omega) hL ?_
  refine ly_arg (i := i) (k := 2) dL_law_1091 dL_law_1092 dL_law_1093 rfl dL_law_1094 dL_law_1095 rfl rfl (by omega) hL ?_
  refine ly_M (av := [.int (xs G (i + 1)), .int (xs G (i + 2))]) (bp_m hp hc) dL_law_1096 lL_133 rfl rfl rfl (by decide) (Nat.le_of_ble_eq_true rfl) (c_X12_taken G rm h1 S (xs G (i + 1)) (xs G (i + 2)) Q.2.1 j2.1 j2.2) (fun y S2 h2 R2 hm => ?_)
  obtain ⟨rfl, q2⟩ := R2
  refine ax_icmp_eq (tgt := 1104) dL_law_1099 (by decide) (fun _ => ?_) (fun ne => absurd rfl ne)
  refine ax_budget (mc' := mc) (ms' := ms) (by omega) (by omega) ?_
  have c9 : clK S S1 := cl_eq q1
  have m9 : mdK S S2 := md_eq q2
  exact K Q _ h2 (bp_sync hc hm (shd_of c9 m9)) hx (INV.go (hI) (by omega) (agr_of c9 m9))
