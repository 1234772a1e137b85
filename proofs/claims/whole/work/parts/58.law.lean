set_option maxRecDepth 100000 in
set_option maxHeartbeats 4000000 in
theorem law_0 {G : VG} {d : Nat} {X : VX} {μ : VS} {P : PC} {L : Nat} {S κ : Nat → Nat} {I : Nat → PC} {i_ L_ : Nat} {xs : Nat → Int32} (hX : Cx G (d + 20) x code 4 ret X) (hs : scr G X L_ xs) (hi : i_ + 7 ≤ L_) (hL : L_ ≤ 3584) (hok : okS P L S κ I) (hC : RC μ P L S κ I) (hM : RM μ P L S κ I) (hN : ∀ (P : PC) (L : Nat) (S κ : Nat → Nat) (I : Nat → PC) (μ : VS), okS P L S κ I → RC μ P L S κ I → RM μ P L S κ I → V G 4 X 933 [(0, .ref 2000), (1, .ref 0), (2, .ref 69), (3, .int (nI i_))] [] μ) : V G 4 X 160 [(0, .ref 2000), (1, .ref 0), (2, .ref 69), (3, .int (nI i_))] [] μ := by
  refine V_aload_n hX dL_law_160 1 rfl ?_
  refine V_aload_n hX dL_law_161 0 rfl ?_
  refine V_iload_n hX dL_law_162 3 rfl ?_
  refine V_iconst (v := nI 1) hX dL_law_163 (by decide) ?_
  refine V_iaddN hX dL_law_164 ?_
  refine V_sld (j := i_ + 1) hX hs (by omega) (by omega) dL_law_165 ?_
  refine V_callV (As := [.int (xs (i_ + 1))]) (st := []) hX mL_13 rfl (kC_church hC (fun μ1 hC1 hk1 => ?_)) rfl (Nat.le_of_ble_eq_true rfl) (Nat.le_of_ble_eq_true rfl) dL_law_166
  show V G 4 X 169 [(0, .ref 2000), (1, .ref 0), (2, .ref 69), (3, .int (nI i_))] [.int ((churchS P (xs (i_ + 1))).1)] μ1
  have hM1 := hM.kM hk1
  refine V_aload_n hX dL_law_169 2 rfl ?_
  refine V_aload_n hX dL_law_170 0 rfl ?_
  refine V_iload_n hX dL_law_171 3 rfl ?_
  refine V_iconst (v := nI 1) hX dL_law_172 (by decide) ?_
  refine V_iaddN hX dL_law_173 ?_
  refine V_sld (j := i_ + 1) hX hs (by omega) (by omega) dL_law_174 ?_
  refine V_callV (As := [.int (xs (i_ + 1))]) (st := [.int ((churchS P (xs (i_ + 1))).1)]) hX mL_17 rfl (kM_church hM1 (fun μ2 hM2 hk2 => ?_)) rfl (Nat.le_of_ble_eq_true rfl) (Nat.le_of_ble_eq_true rfl) dL_law_175
  show V G 4 X 178 [(0, .ref 2000), (1, .ref 0), (2, .ref 69), (3, .int (nI i_))] [.int ((churchS P (xs (i_ + 1))).1), .int ((churchS P (xs (i_ + 1))).1)] μ2
  have hC2 := hC1.kC hk2
  refine V_icmp_eq (tgt := 933) hX dL_law_178 (by decide) (fun c178 => ?_) (fun c178 => ?_)
  · exact hN (churchS P (xs (i_ + 1))).2 L S κ I μ2 ⟨ok_church hok.1, hok.2.1, hok.2.2⟩ hC2 hM2
  · exact absurd rfl c178
set_option maxRecDepth 100000 in
set_option maxHeartbeats 4000000 in
theorem law_1 {G : VG} {d : Nat} {X : VX} {μ : VS} {P : PC} {L : Nat} {S κ : Nat → Nat} {I : Nat → PC} {i_ L_ : Nat} {xs : Nat → Int32} (hX : Cx G (d + 20) x code 4 ret X) (hs : scr G X L_ xs) (hi : i_ + 7 ≤ L_) (hL : L_ ≤ 3584) (hok : okS P L S κ I) (hC : RC μ P L S κ I) (hM : RM μ P L S κ I) (hN : ∀ (P : PC) (L : Nat) (S κ : Nat → Nat) (I : Nat → PC) (μ : VS), okS P L S κ I → RC μ P L S κ I → RM μ P L S κ I → V G 4 X 933 [(0, .ref 2000), (1, .ref 0), (2, .ref 69), (3, .int (nI i_))] [] μ) : V G 4 X 183 [(0, .ref 2000), (1, .ref 0), (2, .ref 69), (3, .int (nI i_))] [] μ := by
  refine V_aload_n hX dL_law_183 1 rfl ?_
  refine V_aload_n hX dL_law_184 0 rfl ?_
  refine V_iload_n hX dL_law_185 3 rfl ?_
  refine V_iconst (v := nI 1) hX dL_law_186 (by decide) ?_
  refine V_iaddN hX dL_law_187 ?_
  refine V_sld (j := i_ + 1) hX hs (by omega) (by omega) dL_law_188 ?_
  refine V_aload_n hX dL_law_189 0 rfl ?_
  refine V_iload_n hX dL_law_190 3 rfl ?_
  refine V_iconst (v := nI 2) hX dL_law_191 (by decide) ?_
  refine V_iaddN hX dL_law_192 ?_
  refine V_sld (j := i_ + 2) hX hs (by omega) (by omega) dL_law_193 ?_
  refine V_aload_n hX dL_law_194 0 rfl ?_
  refine V_iload_n hX dL_law_195 3 rfl ?_
  refine V_iconst (v := nI 3) hX dL_law_196 (by decide) ?_
  refine V_iaddN hX dL_law_197 ?_
  refine V_sld (j := i_ + 3) hX hs (by omega) (by omega) dL_law_198 ?_
  refine V_aload_n hX dL_law_199 0 rfl ?_
  refine V_iload_n hX dL_law_200 3 rfl ?_
  refine V_iconst (v := nI 4) hX dL_law_201 (by decide) ?_
  refine V_iaddN hX dL_law_202 ?_
  refine V_sld (j := i_ + 4) hX hs (by omega) (by omega) dL_law_203 ?_
  refine V_aload_n hX dL_law_204 0 rfl ?_
  refine V_iload_n hX dL_law_205 3 rfl ?_
  refine V_iconst (v := nI 5) hX dL_law_206 (by decide) ?_
  refine V_iaddN hX dL_law_207 ?_
  refine V_sld (j := i_ + 5) hX hs (by omega) (by omega) dL_law_208 ?_
  suffices hJ209 : V G 4 X 223 [(0, .ref 2000), (1, .ref 0), (2, .ref 69), (3, .int (nI i_))] [.int (bI (¬ xs (i_ + 6) = 0)), .int (xs (i_ + 5)), .int (xs (i_ + 4)), .int (xs (i_ + 3)), .int (xs (i_ + 2)), .int (xs (i_ + 1)), .ref 0] μ by
    refine V_aload_n hX dL_law_209 0 rfl ?_
    refine V_iload_n hX dL_law_210 3 rfl ?_
    refine V_bipush (v := nI 6) hX dL_law_211 (by decide) ?_
    refine V_iaddN hX dL_law_213 ?_
    refine V_sld (j := i_ + 6) hX hs (by omega) (by omega) dL_law_214 ?_
    refine V_if_eq (tgt := 222) hX dL_law_215 (by decide) (fun c215 => ?_) (fun c215 => ?_)
    · refine V_iconst (v := nI 0) hX dL_law_222 (by decide) ?_
      rw [show nI 0 = bI (¬ xs (i_ + 6) = 0) from ((bI_f (fun z => z c215)).trans (by decide)).symm]
      exact hJ209
    · refine V_iconst (v := nI 1) hX dL_law_218 (by decide) ?_
      refine V_goto (tgt := 223) hX dL_law_219 (by decide) ?_
      rw [show nI 1 = bI (¬ xs (i_ + 6) = 0) from ((bI_t c215).trans (by decide)).symm]
      exact hJ209
  refine V_callV (As := [.int (xs (i_ + 1)), .int (xs (i_ + 2)), .int (xs (i_ + 3)), .int (xs (i_ + 4)), .int (xs (i_ + 5)), .int (bI (¬ xs (i_ + 6) = 0))]) (st := []) hX mL_18 rfl (kC_hearer hC hok.1 (fun μ1 hC1 hk1 => ?_)) rfl (Nat.le_of_ble_eq_true rfl) (Nat.le_of_ble_eq_true rfl) dL_law_223
  show V G 4 X 226 [(0, .ref 2000), (1, .ref 0), (2, .ref 69), (3, .int (nI i_))] [.int ((hearerS P (xs (i_ + 1)) (xs (i_ + 2)) (xs (i_ + 3)) (xs (i_ + 4)) (xs (i_ + 5)) (bI (¬ xs (i_ + 6) = 0))).1)] μ1
  have hM1 := hM.kM hk1
  refine V_aload_n hX dL_law_226 2 rfl ?_
  refine V_aload_n hX dL_law_227 0 rfl ?_
  refine V_iload_n hX dL_law_228 3 rfl ?_
  refine V_iconst (v := nI 1) hX dL_law_229 (by decide) ?_
  refine V_iaddN hX dL_law_230 ?_
  refine V_sld (j := i_ + 1) hX hs (by omega) (by omega) dL_law_231 ?_
  refine V_aload_n hX dL_law_232 0 rfl ?_
  refine V_iload_n hX dL_law_233 3 rfl ?_
  refine V_iconst (v := nI 2) hX dL_law_234 (by decide) ?_
  refine V_iaddN hX dL_law_235 ?_
  refine V_sld (j := i_ + 2) hX hs (by omega) (by omega) dL_law_236 ?_
  refine V_aload_n hX dL_law_237 0 rfl ?_
  refine V_iload_n hX dL_law_238 3 rfl ?_
  refine V_iconst (v := nI 3) hX dL_law_239 (by decide) ?_
  refine V_iaddN hX dL_law_240 ?_
  refine V_sld (j := i_ + 3) hX hs (by omega) (by omega) dL_law_241 ?_
  refine V_aload_n hX dL_law_242 0 rfl ?_
  refine V_iload_n hX dL_law_243 3 rfl ?_
  refine V_iconst (v := nI 4) hX dL_law_244 (by decide) ?_
  refine V_iaddN hX dL_law_245 ?_
  refine V_sld (j := i_ + 4) hX hs (by omega) (by omega) dL_law_246 ?_
  refine V_aload_n hX dL_law_247 0 rfl ?_
  refine V_iload_n hX dL_law_248 3 rfl ?_
  refine V_iconst (v := nI 5) hX dL_law_249 (by decide) ?_
  refine V_iaddN hX dL_law_250 ?_
  refine V_sld (j := i_ + 5) hX hs (by omega) (by omega) dL_law_251 ?_
  suffices hJ252 : V G 4 X 266 [(0, .ref 2000), (1, .ref 0), (2, .ref 69), (3, .int (nI i_))] [.int (bI (¬ xs (i_ + 6) = 0)), .int (xs (i_ + 5)), .int (xs (i_ + 4)), .int (xs (i_ + 3)), .int (xs (i_ + 2)), .int (xs (i_ + 1)), .ref 69, .int ((hearerS P (xs (i_ + 1)) (xs (i_ + 2)) (xs (i_ + 3)) (xs (i_ + 4)) (xs (i_ + 5)) (bI (¬ xs (i_ + 6) = 0))).1)] μ1 by
    refine V_aload_n hX dL_law_252 0 rfl ?_
    refine V_iload_n hX dL_law_253 3 rfl ?_
    refine V_bipush (v := nI 6) hX dL_law_254 (by decide) ?_
    refine V_iaddN hX dL_law_256 ?_
    refine V_sld (j := i_ + 6) hX hs (by omega) (by omega) dL_law_257 ?_
    refine V_if_eq (tgt := 265) hX dL_law_258 (by decide) (fun c258 => ?_) (fun c258 => ?_)
    · refine V_iconst (v := nI 0) hX dL_law_265 (by decide) ?_
      rw [show nI 0 = bI (¬ xs (i_ + 6) = 0) from ((bI_f (fun z => z c258)).trans (by decide)).symm]
      exact hJ252
    · refine V_iconst (v := nI 1) hX dL_law_261 (by decide) ?_
      refine V_goto (tgt := 266) hX dL_law_262 (by decide) ?_
      rw [show nI 1 = bI (¬ xs (i_ + 6) = 0) from ((bI_t c258).trans (by decide)).symm]
      exact hJ252
  refine V_callV (As := [.int (xs (i_ + 1)), .int (xs (i_ + 2)), .int (xs (i_ + 3)), .int (xs (i_ + 4)), .int (xs (i_ + 5)), .int (bI (¬ xs (i_ + 6) = 0))]) (st := [.int ((hearerS P (xs (i_ + 1)) (xs (i_ + 2)) (xs (i_ + 3)) (xs (i_ + 4)) (xs (i_ + 5)) (bI (¬ xs (i_ + 6) = 0))).1)]) hX mL_22 rfl (kM_hearer hM1 hok.1 (fun μ2 hM2 hk2 => ?_)) rfl (Nat.le_of_ble_eq_true rfl) (Nat.le_of_ble_eq_true rfl) dL_law_266
  show V G 4 X 269 [(0, .ref 2000), (1, .ref 0), (2, .ref 69), (3, .int (nI i_))] [.int ((hearerS P (xs (i_ + 1)) (xs (i_ + 2)) (xs (i_ + 3)) (xs (i_ + 4)) (xs (i_ + 5)) (bI (¬ xs (i_ + 6) = 0))).1), .int ((hearerS P (xs (i_ + 1)) (xs (i_ + 2)) (xs (i_ + 3)) (xs (i_ + 4)) (xs (i_ + 5)) (bI (¬ xs (i_ + 6) = 0))).1)] μ2
  have hC2 := hC1.kC hk2
  refine V_icmp_eq (tgt := 933) hX dL_law_269 (by decide) (fun c269 => ?_) (fun c269 => ?_)
  · exact hN (hearerS P (xs (i_ + 1)) (xs (i_ + 2)) (xs (i_ + 3)) (xs (i_ + 4)) (xs (i_ + 5)) (bI (¬ xs (i_ + 6) = 0))).2 L S κ I μ2 ⟨ok_hearer hok.1, hok.2.1, hok.2.2⟩ hC2 hM2
  · exact absurd rfl c269
set_option maxRecDepth 100000 in
set_option maxHeartbeats 4000000 in
theorem law_2 {G : VG} {d : Nat} {X : VX} {μ : VS} {P : PC} {L : Nat} {S κ : Nat → Nat} {I : Nat → PC} {i_ L_ : Nat} {xs : Nat → Int32} (hX : Cx G (d + 20) x code 4 ret X) (hs : scr G X L_ xs) (hi : i_ + 7 ≤ L_) (hL : L_ ≤ 3584) (hok : okS P L S κ I) (hC : RC μ P L S κ I) (hM : RM μ P L S κ I) (hN : ∀ (P : PC) (L : Nat) (S κ : Nat → Nat) (I : Nat → PC) (μ : VS), okS P L S κ I → RC μ P L S κ I → RM μ P L S κ I → V G 4 X 933 [(0, .ref 2000), (1, .ref 0), (2, .ref 69), (3, .int (nI i_))] [] μ) : V G 4 X 274 [(0, .ref 2000), (1, .ref 0), (2, .ref 69), (3, .int (nI i_))] [] μ := by
  refine V_aload_n hX dL_law_274 1 rfl ?_
  refine V_aload_n hX dL_law_275 0 rfl ?_
  refine V_iload_n hX dL_law_276 3 rfl ?_
  refine V_iconst (v := nI 1) hX dL_law_277 (by decide) ?_
  refine V_iaddN hX dL_law_278 ?_
  refine V_sld (j := i_ + 1) hX hs (by omega) (by omega) dL_law_279 ?_
  refine V_callV (As := [.int (xs (i_ + 1))]) (st := []) hX mL_23 rfl (kC_leave hC hok.1.2.2.2.2.1 (fun μ1 hC1 hk1 => ?_)) rfl (Nat.le_of_ble_eq_true rfl) (Nat.le_of_ble_eq_true rfl) dL_law_280
  show V G 4 X 283 [(0, .ref 2000), (1, .ref 0), (2, .ref 69), (3, .int (nI i_))] [.int ((leaveS P (xs (i_ + 1))).1)] μ1
  have hM1 := hM.kM hk1
  refine V_aload_n hX dL_law_283 2 rfl ?_
  refine V_aload_n hX dL_law_284 0 rfl ?_
  refine V_iload_n hX dL_law_285 3 rfl ?_
  refine V_iconst (v := nI 1) hX dL_law_286 (by decide) ?_
  refine V_iaddN hX dL_law_287 ?_
  refine V_sld (j := i_ + 1) hX hs (by omega) (by omega) dL_law_288 ?_
  refine V_callV (As := [.int (xs (i_ + 1))]) (st := [.int ((leaveS P (xs (i_ + 1))).1)]) hX mL_26 rfl (kM_leave hM1 hok.1.2.2.2.2.1 (fun μ2 hM2 hk2 => ?_)) rfl (Nat.le_of_ble_eq_true rfl) (Nat.le_of_ble_eq_true rfl) dL_law_289
  show V G 4 X 292 [(0, .ref 2000), (1, .ref 0), (2, .ref 69), (3, .int (nI i_))] [.int ((leaveS P (xs (i_ + 1))).1), .int ((leaveS P (xs (i_ + 1))).1)] μ2
  have hC2 := hC1.kC hk2
  refine V_icmp_eq (tgt := 933) hX dL_law_292 (by decide) (fun c292 => ?_) (fun c292 => ?_)
  · exact hN (leaveS P (xs (i_ + 1))).2 L S κ I μ2 ⟨ok_leave hok.1, hok.2.1, hok.2.2⟩ hC2 hM2
  · exact absurd rfl c292
set_option maxRecDepth 100000 in
set_option maxHeartbeats 4000000 in
theorem law_3 {G : VG} {d : Nat} {X : VX} {μ : VS} {P : PC} {L : Nat} {S κ : Nat → Nat} {I : Nat → PC} {i_ L_ : Nat} {xs : Nat → Int32} (hX : Cx G (d + 20) x code 4 ret X) (hs : scr G X L_ xs) (hi : i_ + 7 ≤ L_) (hL : L_ ≤ 3584) (hok : okS P L S κ I) (hC : RC μ P L S κ I) (hM : RM μ P L S κ I) (hN : ∀ (P : PC) (L : Nat) (S κ : Nat → Nat) (I : Nat → PC) (μ : VS), okS P L S κ I → RC μ P L S κ I → RM μ P L S κ I → V G 4 X 933 [(0, .ref 2000), (1, .ref 0), (2, .ref 69), (3, .int (nI i_))] [] μ) : V G 4 X 297 [(0, .ref 2000), (1, .ref 0), (2, .ref 69), (3, .int (nI i_))] [] μ := by
  refine V_aload_n hX dL_law_297 1 rfl ?_
  refine V_aload_n hX dL_law_298 0 rfl ?_
  refine V_iload_n hX dL_law_299 3 rfl ?_
  refine V_iconst (v := nI 1) hX dL_law_300 (by decide) ?_
  refine V_iaddN hX dL_law_301 ?_
  refine V_sld (j := i_ + 1) hX hs (by omega) (by omega) dL_law_302 ?_
  refine V_aload_n hX dL_law_303 0 rfl ?_
  refine V_iload_n hX dL_law_304 3 rfl ?_
  refine V_iconst (v := nI 2) hX dL_law_305 (by decide) ?_
  refine V_iaddN hX dL_law_306 ?_
  refine V_sld (j := i_ + 2) hX hs (by omega) (by omega) dL_law_307 ?_
  refine V_callV (As := [.int (xs (i_ + 1)), .int (xs (i_ + 2))]) (st := []) hX mL_27 rfl (kC_set hC (fun μ1 hC1 hk1 => ?_)) rfl (Nat.le_of_ble_eq_true rfl) (Nat.le_of_ble_eq_true rfl) dL_law_308
  show V G 4 X 311 [(0, .ref 2000), (1, .ref 0), (2, .ref 69), (3, .int (nI i_))] [.int ((setS P (xs (i_ + 1)) (xs (i_ + 2))).1)] μ1
  have hM1 := hM.kM hk1
  refine V_aload_n hX dL_law_311 2 rfl ?_
  refine V_aload_n hX dL_law_312 0 rfl ?_
  refine V_iload_n hX dL_law_313 3 rfl ?_
  refine V_iconst (v := nI 1) hX dL_law_314 (by decide) ?_
  refine V_iaddN hX dL_law_315 ?_
  refine V_sld (j := i_ + 1) hX hs (by omega) (by omega) dL_law_316 ?_
  refine V_aload_n hX dL_law_317 0 rfl ?_
  refine V_iload_n hX dL_law_318 3 rfl ?_
  refine V_iconst (v := nI 2) hX dL_law_319 (by decide) ?_
  refine V_iaddN hX dL_law_320 ?_
  refine V_sld (j := i_ + 2) hX hs (by omega) (by omega) dL_law_321 ?_
  refine V_callV (As := [.int (xs (i_ + 1)), .int (xs (i_ + 2))]) (st := [.int ((setS P (xs (i_ + 1)) (xs (i_ + 2))).1)]) hX mL_31 rfl (kM_set hM1 (fun μ2 hM2 hk2 => ?_)) rfl (Nat.le_of_ble_eq_true rfl) (Nat.le_of_ble_eq_true rfl) dL_law_322
  show V G 4 X 325 [(0, .ref 2000), (1, .ref 0), (2, .ref 69), (3, .int (nI i_))] [.int ((setS P (xs (i_ + 1)) (xs (i_ + 2))).1), .int ((setS P (xs (i_ + 1)) (xs (i_ + 2))).1)] μ2
  have hC2 := hC1.kC hk2
  refine V_icmp_eq (tgt := 933) hX dL_law_325 (by decide) (fun c325 => ?_) (fun c325 => ?_)
  · exact hN (setS P (xs (i_ + 1)) (xs (i_ + 2))).2 L S κ I μ2 ⟨ok_set hok.1, hok.2.1, hok.2.2⟩ hC2 hM2
  · exact absurd rfl c325
set_option maxRecDepth 100000 in
set_option maxHeartbeats 4000000 in
theorem law_4 {G : VG} {d : Nat} {X : VX} {μ : VS} {P : PC} {L : Nat} {S κ : Nat → Nat} {I : Nat → PC} {i_ L_ : Nat} {xs : Nat → Int32} (hX : Cx G (d + 20) x code 4 ret X) (hs : scr G X L_ xs) (hi : i_ + 7 ≤ L_) (hL : L_ ≤ 3584) (hok : okS P L S κ I) (hC : RC μ P L S κ I) (hM : RM μ P L S κ I) (hN : ∀ (P : PC) (L : Nat) (S κ : Nat → Nat) (I : Nat → PC) (μ : VS), okS P L S κ I → RC μ P L S κ I → RM μ P L S κ I → V G 4 X 933 [(0, .ref 2000), (1, .ref 0), (2, .ref 69), (3, .int (nI i_))] [] μ) : V G 4 X 330 [(0, .ref 2000), (1, .ref 0), (2, .ref 69), (3, .int (nI i_))] [] μ := by
  refine V_aload_n hX dL_law_330 1 rfl ?_
  refine V_aload_n hX dL_law_331 0 rfl ?_
  refine V_iload_n hX dL_law_332 3 rfl ?_
  refine V_iconst (v := nI 1) hX dL_law_333 (by decide) ?_
  refine V_iaddN hX dL_law_334 ?_
  refine V_sld (j := i_ + 1) hX hs (by omega) (by omega) dL_law_335 ?_
  refine V_callV (As := [.int (xs (i_ + 1))]) (st := []) hX mL_32 rfl (kC_say hC hok.2.1.1 (fun μ1 hC1 hk1 => ?_)) rfl (Nat.le_of_ble_eq_true rfl) (Nat.le_of_ble_eq_true rfl) dL_law_336
  show V G 4 X 339 [(0, .ref 2000), (1, .ref 0), (2, .ref 69), (3, .int (nI i_))] [.int ((sayS L S (xs (i_ + 1))).1)] μ1
  have hM1 := hM.kM hk1
  refine V_aload_n hX dL_law_339 2 rfl ?_
  refine V_aload_n hX dL_law_340 0 rfl ?_
  refine V_iload_n hX dL_law_341 3 rfl ?_
  refine V_iconst (v := nI 1) hX dL_law_342 (by decide) ?_
  refine V_iaddN hX dL_law_343 ?_
  refine V_sld (j := i_ + 1) hX hs (by omega) (by omega) dL_law_344 ?_
  refine V_callV (As := [.int (xs (i_ + 1))]) (st := [.int ((sayS L S (xs (i_ + 1))).1)]) hX mL_35 rfl (kM_say hM1 hok.2.1.1 (fun μ2 hM2 hk2 => ?_)) rfl (Nat.le_of_ble_eq_true rfl) (Nat.le_of_ble_eq_true rfl) dL_law_345
  show V G 4 X 348 [(0, .ref 2000), (1, .ref 0), (2, .ref 69), (3, .int (nI i_))] [.int ((sayS L S (xs (i_ + 1))).1), .int ((sayS L S (xs (i_ + 1))).1)] μ2
  have hC2 := hC1.kC hk2
  refine V_icmp_eq (tgt := 933) hX dL_law_348 (by decide) (fun c348 => ?_) (fun c348 => ?_)
  · exact hN P (sayS L S (xs (i_ + 1))).2.1 (sayS L S (xs (i_ + 1))).2.2 κ I μ2 ⟨hok.1, ok_say hok.2.1, hok.2.2⟩ hC2 hM2
  · exact absurd rfl c348
set_option maxRecDepth 100000 in
set_option maxHeartbeats 4000000 in
theorem law_5 {G : VG} {d : Nat} {X : VX} {μ : VS} {P : PC} {L : Nat} {S κ : Nat → Nat} {I : Nat → PC} {i_ L_ : Nat} {xs : Nat → Int32} (hX : Cx G (d + 20) x code 4 ret X) (hs : scr G X L_ xs) (hi : i_ + 7 ≤ L_) (hL : L_ ≤ 3584) (hok : okS P L S κ I) (hC : RC μ P L S κ I) (hM : RM μ P L S κ I) (hN : ∀ (P : PC) (L : Nat) (S κ : Nat → Nat) (I : Nat → PC) (μ : VS), okS P L S κ I → RC μ P L S κ I → RM μ P L S κ I → V G 4 X 933 [(0, .ref 2000), (1, .ref 0), (2, .ref 69), (3, .int (nI i_))] [] μ) : V G 4 X 353 [(0, .ref 2000), (1, .ref 0), (2, .ref 69), (3, .int (nI i_))] [] μ := by
  refine V_aload_n hX dL_law_353 1 rfl ?_
  refine V_callV (As := []) (st := []) hX mL_36 rfl (kC_wipe hC (fun μ1 hC1 hk1 => ?_)) rfl (Nat.le_of_ble_eq_true rfl) (Nat.le_of_ble_eq_true rfl) dL_law_354
  show V G 4 X 357 [(0, .ref 2000), (1, .ref 0), (2, .ref 69), (3, .int (nI i_))] [.int (nI L)] μ1
  have hM1 := hM.kM hk1
  refine V_aload_n hX dL_law_357 2 rfl ?_
  refine V_callV (As := []) (st := [.int (nI L)]) hX mL_40 rfl (kM_wipe hM1 (fun μ2 hM2 hk2 => ?_)) rfl (Nat.le_of_ble_eq_true rfl) (Nat.le_of_ble_eq_true rfl) dL_law_358
  show V G 4 X 361 [(0, .ref 2000), (1, .ref 0), (2, .ref 69), (3, .int (nI i_))] [.int (nI L), .int (nI L)] μ2
  have hC2 := hC1.kC hk2
  refine V_icmp_eq (tgt := 933) hX dL_law_361 (by decide) (fun c361 => ?_) (fun c361 => ?_)
  · exact hN P 0 S κ I μ2 ⟨hok.1, ⟨Nat.zero_le _, fun i hi => absurd hi (by omega)⟩, hok.2.2⟩ hC2 hM2
  · exact absurd rfl c361
set_option maxRecDepth 100000 in
set_option maxHeartbeats 4000000 in
theorem law_6 {G : VG} {d : Nat} {X : VX} {μ : VS} {P : PC} {L : Nat} {S κ : Nat → Nat} {I : Nat → PC} {i_ L_ : Nat} {xs : Nat → Int32} (hX : Cx G (d + 20) x code 4 ret X) (hs : scr G X L_ xs) (hi : i_ + 7 ≤ L_) (hL : L_ ≤ 3584) (hok : okS P L S κ I) (hC : RC μ P L S κ I) (hM : RM μ P L S κ I) (hN : ∀ (P : PC) (L : Nat) (S κ : Nat → Nat) (I : Nat → PC) (μ : VS), okS P L S κ I → RC μ P L S κ I → RM μ P L S κ I → V G 4 X 933 [(0, .ref 2000), (1, .ref 0), (2, .ref 69), (3, .int (nI i_))] [] μ) : V G 4 X 366 [(0, .ref 2000), (1, .ref 0), (2, .ref 69), (3, .int (nI i_))] [] μ := by
  refine V_aload_n hX dL_law_366 1 rfl ?_
  refine V_callV (As := []) (st := []) hX mL_41 rfl (kC_fault hC.2.1 hok.2.1.2 hok.2.1.1 ?_) rfl (Nat.le_of_ble_eq_true rfl) (Nat.le_of_ble_eq_true rfl) dL_law_367
  show V G 4 X 370 [(0, .ref 2000), (1, .ref 0), (2, .ref 69), (3, .int (nI i_))] [.int (fltU S L)] μ
  refine V_aload_n hX dL_law_370 2 rfl ?_
  refine V_callV (As := []) (st := [.int (fltU S L)]) hX mL_44 rfl (kM_fault hM.2.1 hok.2.1.2 hok.2.1.1 ?_) rfl (Nat.le_of_ble_eq_true rfl) (Nat.le_of_ble_eq_true rfl) dL_law_371
  show V G 4 X 374 [(0, .ref 2000), (1, .ref 0), (2, .ref 69), (3, .int (nI i_))] [.int (fltU S L), .int (fltU S L)] μ
  refine V_icmp_eq (tgt := 933) hX dL_law_374 (by decide) (fun c374 => ?_) (fun c374 => ?_)
  · exact hN _ _ _ _ _ _ hok hC hM
  · exact absurd rfl c374
set_option maxRecDepth 100000 in
set_option maxHeartbeats 4000000 in
theorem law_7 {G : VG} {d : Nat} {X : VX} {μ : VS} {P : PC} {L : Nat} {S κ : Nat → Nat} {I : Nat → PC} {i_ L_ : Nat} {xs : Nat → Int32} (hX : Cx G (d + 20) x code 4 ret X) (hs : scr G X L_ xs) (hi : i_ + 7 ≤ L_) (hL : L_ ≤ 3584) (hok : okS P L S κ I) (hC : RC μ P L S κ I) (hM : RM μ P L S κ I) (hN : ∀ (P : PC) (L : Nat) (S κ : Nat → Nat) (I : Nat → PC) (μ : VS), okS P L S κ I → RC μ P L S κ I → RM μ P L S κ I → V G 4 X 933 [(0, .ref 2000), (1, .ref 0), (2, .ref 69), (3, .int (nI i_))] [] μ) : V G 4 X 379 [(0, .ref 2000), (1, .ref 0), (2, .ref 69), (3, .int (nI i_))] [] μ := by
  refine V_aload_n hX dL_law_379 1 rfl ?_
  refine V_aload_n hX dL_law_380 0 rfl ?_
  refine V_iload_n hX dL_law_381 3 rfl ?_
  refine V_iconst (v := nI 1) hX dL_law_382 (by decide) ?_
  refine V_iaddN hX dL_law_383 ?_
  refine V_sld (j := i_ + 1) hX hs (by omega) (by omega) dL_law_384 ?_
  refine V_aload_n hX dL_law_385 0 rfl ?_
  refine V_iload_n hX dL_law_386 3 rfl ?_
  refine V_iconst (v := nI 2) hX dL_law_387 (by decide) ?_
  refine V_iaddN hX dL_law_388 ?_
  refine V_sld (j := i_ + 2) hX hs (by omega) (by omega) dL_law_389 ?_
  refine V_aload_n hX dL_law_390 0 rfl ?_
  refine V_iload_n hX dL_law_391 3 rfl ?_
  refine V_iconst (v := nI 3) hX dL_law_392 (by decide) ?_
  refine V_iaddN hX dL_law_393 ?_
  refine V_sld (j := i_ + 3) hX hs (by omega) (by omega) dL_law_394 ?_
  refine V_callV (As := [.int (xs (i_ + 1)), .int (xs (i_ + 2)), .int (xs (i_ + 3))]) (st := []) hX mL_45 rfl (kC_heard hC hok.1 hok.2.1 (fun μ1 hC1 hk1 => ?_)) rfl (Nat.le_of_ble_eq_true rfl) (Nat.le_of_ble_eq_true rfl) dL_law_395
  show V G 4 X 398 [(0, .ref 2000), (1, .ref 0), (2, .ref 69), (3, .int (nI i_))] [.int (heardS P L S (xs (i_ + 1)) (xs (i_ + 2)) (xs (i_ + 3)))] μ1
  have hM1 := hM.kM hk1
  refine V_aload_n hX dL_law_398 2 rfl ?_
  refine V_aload_n hX dL_law_399 0 rfl ?_
  refine V_iload_n hX dL_law_400 3 rfl ?_
  refine V_iconst (v := nI 1) hX dL_law_401 (by decide) ?_
  refine V_iaddN hX dL_law_402 ?_
  refine V_sld (j := i_ + 1) hX hs (by omega) (by omega) dL_law_403 ?_
  refine V_aload_n hX dL_law_404 0 rfl ?_
  refine V_iload_n hX dL_law_405 3 rfl ?_
  refine V_iconst (v := nI 2) hX dL_law_406 (by decide) ?_
  refine V_iaddN hX dL_law_407 ?_
  refine V_sld (j := i_ + 2) hX hs (by omega) (by omega) dL_law_408 ?_
  refine V_aload_n hX dL_law_409 0 rfl ?_
  refine V_iload_n hX dL_law_410 3 rfl ?_
  refine V_iconst (v := nI 3) hX dL_law_411 (by decide) ?_
  refine V_iaddN hX dL_law_412 ?_
  refine V_sld (j := i_ + 3) hX hs (by omega) (by omega) dL_law_413 ?_
  refine V_callV (As := [.int (xs (i_ + 1)), .int (xs (i_ + 2)), .int (xs (i_ + 3))]) (st := [.int (heardS P L S (xs (i_ + 1)) (xs (i_ + 2)) (xs (i_ + 3)))]) hX mL_49 rfl (kM_heard hM1 hok.1 hok.2.1 (fun μ2 hM2 hk2 => ?_)) rfl (Nat.le_of_ble_eq_true rfl) (Nat.le_of_ble_eq_true rfl) dL_law_414
  show V G 4 X 417 [(0, .ref 2000), (1, .ref 0), (2, .ref 69), (3, .int (nI i_))] [.int (heardS P L S (xs (i_ + 1)) (xs (i_ + 2)) (xs (i_ + 3))), .int (heardS P L S (xs (i_ + 1)) (xs (i_ + 2)) (xs (i_ + 3)))] μ2
  have hC2 := hC1.kC hk2
  refine V_icmp_eq (tgt := 933) hX dL_law_417 (by decide) (fun c417 => ?_) (fun c417 => ?_)
  · exact hN P L S κ I μ2 hok hC2 hM2
  · exact absurd rfl c417
set_option maxRecDepth 100000 in
set_option maxHeartbeats 4000000 in
theorem law_8 {G : VG} {d : Nat} {X : VX} {μ : VS} {P : PC} {L : Nat} {S κ : Nat → Nat} {I : Nat → PC} {i_ L_ : Nat} {xs : Nat → Int32} (hX : Cx G (d + 20) x code 4 ret X) (hs : scr G X L_ xs) (hi : i_ + 7 ≤ L_) (hL : L_ ≤ 3584) (hok : okS P L S κ I) (hC : RC μ P L S κ I) (hM : RM μ P L S κ I) (hN : ∀ (P : PC) (L : Nat) (S κ : Nat → Nat) (I : Nat → PC) (μ : VS), okS P L S κ I → RC μ P L S κ I → RM μ P L S κ I → V G 4 X 933 [(0, .ref 2000), (1, .ref 0), (2, .ref 69), (3, .int (nI i_))] [] μ) : V G 4 X 422 [(0, .ref 2000), (1, .ref 0), (2, .ref 69), (3, .int (nI i_))] [] μ := by
  refine V_aload_n hX dL_law_422 1 rfl ?_
  refine V_aload_n hX dL_law_423 0 rfl ?_
  refine V_iload_n hX dL_law_424 3 rfl ?_
  refine V_iconst (v := nI 1) hX dL_law_425 (by decide) ?_
  refine V_iaddN hX dL_law_426 ?_
  refine V_sld (j := i_ + 1) hX hs (by omega) (by omega) dL_law_427 ?_
  refine V_aload_n hX dL_law_428 0 rfl ?_
  refine V_iload_n hX dL_law_429 3 rfl ?_
  refine V_iconst (v := nI 2) hX dL_law_430 (by decide) ?_
  refine V_iaddN hX dL_law_431 ?_
  refine V_sld (j := i_ + 2) hX hs (by omega) (by omega) dL_law_432 ?_
  refine V_callV (As := [.int (xs (i_ + 1)), .int (xs (i_ + 2))]) (st := []) hX mL_50 rfl (kC_sum hC hok.1 hok.2.1 (fun μ1 hC1 hk1 => ?_)) rfl (Nat.le_of_ble_eq_true rfl) (Nat.le_of_ble_eq_true rfl) dL_law_433
  show V G 4 X 436 [(0, .ref 2000), (1, .ref 0), (2, .ref 69), (3, .int (nI i_))] [.int (sumS P L S (xs (i_ + 1)) (xs (i_ + 2)))] μ1
  have hM1 := hM.kM hk1
  refine V_aload_n hX dL_law_436 2 rfl ?_
  refine V_aload_n hX dL_law_437 0 rfl ?_
  refine V_iload_n hX dL_law_438 3 rfl ?_
  refine V_iconst (v := nI 1) hX dL_law_439 (by decide) ?_
  refine V_iaddN hX dL_law_440 ?_
  refine V_sld (j := i_ + 1) hX hs (by omega) (by omega) dL_law_441 ?_
  refine V_aload_n hX dL_law_442 0 rfl ?_
  refine V_iload_n hX dL_law_443 3 rfl ?_
  refine V_iconst (v := nI 2) hX dL_law_444 (by decide) ?_
  refine V_iaddN hX dL_law_445 ?_
  refine V_sld (j := i_ + 2) hX hs (by omega) (by omega) dL_law_446 ?_
  refine V_callV (As := [.int (xs (i_ + 1)), .int (xs (i_ + 2))]) (st := [.int (sumS P L S (xs (i_ + 1)) (xs (i_ + 2)))]) hX mL_53 rfl (kM_sum hM1 hok.1 hok.2.1 (fun μ2 hM2 hk2 => ?_)) rfl (Nat.le_of_ble_eq_true rfl) (Nat.le_of_ble_eq_true rfl) dL_law_447
  show V G 4 X 450 [(0, .ref 2000), (1, .ref 0), (2, .ref 69), (3, .int (nI i_))] [.int (sumS P L S (xs (i_ + 1)) (xs (i_ + 2))), .int (sumS P L S (xs (i_ + 1)) (xs (i_ + 2)))] μ2
  have hC2 := hC1.kC hk2
  refine V_icmp_eq (tgt := 933) hX dL_law_450 (by decide) (fun c450 => ?_) (fun c450 => ?_)
  · exact hN P L S κ I μ2 hok hC2 hM2
  · exact absurd rfl c450
set_option maxRecDepth 100000 in
set_option maxHeartbeats 4000000 in
theorem law_9 {G : VG} {d : Nat} {X : VX} {μ : VS} {P : PC} {L : Nat} {S κ : Nat → Nat} {I : Nat → PC} {i_ L_ : Nat} {xs : Nat → Int32} (hX : Cx G (d + 20) x code 4 ret X) (hs : scr G X L_ xs) (hi : i_ + 7 ≤ L_) (hL : L_ ≤ 3584) (hok : okS P L S κ I) (hC : RC μ P L S κ I) (hM : RM μ P L S κ I) (hN : ∀ (P : PC) (L : Nat) (S κ : Nat → Nat) (I : Nat → PC) (μ : VS), okS P L S κ I → RC μ P L S κ I → RM μ P L S κ I → V G 4 X 933 [(0, .ref 2000), (1, .ref 0), (2, .ref 69), (3, .int (nI i_))] [] μ) : V G 4 X 455 [(0, .ref 2000), (1, .ref 0), (2, .ref 69), (3, .int (nI i_))] [] μ := by
  refine V_aload_n hX dL_law_455 1 rfl ?_
  refine V_aload_n hX dL_law_456 0 rfl ?_
  refine V_iload_n hX dL_law_457 3 rfl ?_
  refine V_iconst (v := nI 1) hX dL_law_458 (by decide) ?_
  refine V_iaddN hX dL_law_459 ?_
  refine V_sld (j := i_ + 1) hX hs (by omega) (by omega) dL_law_460 ?_
  refine V_callV (As := [.int (xs (i_ + 1))]) (st := []) hX mL_54 rfl (kC_first hC hok.1 hok.2.1 (fun μ1 hC1 hk1 => ?_)) rfl (Nat.le_of_ble_eq_true rfl) (Nat.le_of_ble_eq_true rfl) dL_law_461
  show V G 4 X 464 [(0, .ref 2000), (1, .ref 0), (2, .ref 69), (3, .int (nI i_))] [.int (firstS P L S (xs (i_ + 1)))] μ1
  have hM1 := hM.kM hk1
  refine V_aload_n hX dL_law_464 2 rfl ?_
  refine V_aload_n hX dL_law_465 0 rfl ?_
  refine V_iload_n hX dL_law_466 3 rfl ?_
  refine V_iconst (v := nI 1) hX dL_law_467 (by decide) ?_
  refine V_iaddN hX dL_law_468 ?_
  refine V_sld (j := i_ + 1) hX hs (by omega) (by omega) dL_law_469 ?_
  refine V_callV (As := [.int (xs (i_ + 1))]) (st := [.int (firstS P L S (xs (i_ + 1)))]) hX mL_57 rfl (kM_first hM1 hok.1 hok.2.1 (fun μ2 hM2 hk2 => ?_)) rfl (Nat.le_of_ble_eq_true rfl) (Nat.le_of_ble_eq_true rfl) dL_law_470
  show V G 4 X 473 [(0, .ref 2000), (1, .ref 0), (2, .ref 69), (3, .int (nI i_))] [.int (firstS P L S (xs (i_ + 1))), .int (firstS P L S (xs (i_ + 1)))] μ2
  have hC2 := hC1.kC hk2
  refine V_icmp_eq (tgt := 933) hX dL_law_473 (by decide) (fun c473 => ?_) (fun c473 => ?_)
  · exact hN P L S κ I μ2 hok hC2 hM2
  · exact absurd rfl c473
set_option maxRecDepth 100000 in
set_option maxHeartbeats 4000000 in
theorem law_10 {G : VG} {d : Nat} {X : VX} {μ : VS} {P : PC} {L : Nat} {S κ : Nat → Nat} {I : Nat → PC} {i_ L_ : Nat} {xs : Nat → Int32} (hX : Cx G (d + 20) x code 4 ret X) (hs : scr G X L_ xs) (hi : i_ + 7 ≤ L_) (hL : L_ ≤ 3584) (hok : okS P L S κ I) (hC : RC μ P L S κ I) (hM : RM μ P L S κ I) (hN : ∀ (P : PC) (L : Nat) (S κ : Nat → Nat) (I : Nat → PC) (μ : VS), okS P L S κ I → RC μ P L S κ I → RM μ P L S κ I → V G 4 X 933 [(0, .ref 2000), (1, .ref 0), (2, .ref 69), (3, .int (nI i_))] [] μ) : V G 4 X 478 [(0, .ref 2000), (1, .ref 0), (2, .ref 69), (3, .int (nI i_))] [] μ := by
  refine V_aload_n hX dL_law_478 1 rfl ?_
  refine V_callV (As := []) (st := []) hX mL_58 rfl (kC_gain hC hok.1 hok.2.1 (fun μ1 hC1 hk1 => ?_)) rfl (Nat.le_of_ble_eq_true rfl) (Nat.le_of_ble_eq_true rfl) dL_law_479
  show V G 4 X 482 [(0, .ref 2000), (1, .ref 0), (2, .ref 69), (3, .int (nI i_))] [.int (gainS P L S)] μ1
  have hM1 := hM.kM hk1
  refine V_aload_n hX dL_law_482 2 rfl ?_
  refine V_callV (As := []) (st := [.int (gainS P L S)]) hX mL_61 rfl (kM_gain hM1 hok.1 hok.2.1 (fun μ2 hM2 hk2 => ?_)) rfl (Nat.le_of_ble_eq_true rfl) (Nat.le_of_ble_eq_true rfl) dL_law_483
  show V G 4 X 486 [(0, .ref 2000), (1, .ref 0), (2, .ref 69), (3, .int (nI i_))] [.int (gainS P L S), .int (gainS P L S)] μ2
  have hC2 := hC1.kC hk2
  refine V_icmp_eq (tgt := 933) hX dL_law_486 (by decide) (fun c486 => ?_) (fun c486 => ?_)
  · exact hN P L S κ I μ2 hok hC2 hM2
  · exact absurd rfl c486
set_option maxRecDepth 100000 in
set_option maxHeartbeats 4000000 in
theorem law_11 {G : VG} {d : Nat} {X : VX} {μ : VS} {P : PC} {L : Nat} {S κ : Nat → Nat} {I : Nat → PC} {i_ L_ : Nat} {xs : Nat → Int32} (hX : Cx G (d + 20) x code 4 ret X) (hs : scr G X L_ xs) (hi : i_ + 7 ≤ L_) (hL : L_ ≤ 3584) (hok : okS P L S κ I) (hC : RC μ P L S κ I) (hM : RM μ P L S κ I) (hN : ∀ (P : PC) (L : Nat) (S κ : Nat → Nat) (I : Nat → PC) (μ : VS), okS P L S κ I → RC μ P L S κ I → RM μ P L S κ I → V G 4 X 933 [(0, .ref 2000), (1, .ref 0), (2, .ref 69), (3, .int (nI i_))] [] μ) : V G 4 X 491 [(0, .ref 2000), (1, .ref 0), (2, .ref 69), (3, .int (nI i_))] [] μ := by
  refine V_aload_n hX dL_law_491 1 rfl ?_
  refine V_aload_n hX dL_law_492 0 rfl ?_
  refine V_iload_n hX dL_law_493 3 rfl ?_
  refine V_iconst (v := nI 1) hX dL_law_494 (by decide) ?_
  refine V_iaddN hX dL_law_495 ?_
  refine V_sld (j := i_ + 1) hX hs (by omega) (by omega) dL_law_496 ?_
  refine V_aload_n hX dL_law_497 0 rfl ?_
  refine V_iload_n hX dL_law_498 3 rfl ?_
  refine V_iconst (v := nI 2) hX dL_law_499 (by decide) ?_
  refine V_iaddN hX dL_law_500 ?_
  refine V_sld (j := i_ + 2) hX hs (by omega) (by omega) dL_law_501 ?_
  refine V_callV (As := [.int (xs (i_ + 1)), .int (xs (i_ + 2))]) (st := []) hX mL_62 rfl (kC_order hC hok.1 hok.2.1 (fun μ1 hC1 hk1 => ?_)) rfl (Nat.le_of_ble_eq_true rfl) (Nat.le_of_ble_eq_true rfl) dL_law_502
  show V G 4 X 505 [(0, .ref 2000), (1, .ref 0), (2, .ref 69), (3, .int (nI i_))] [.int (orderS P L S (xs (i_ + 1)) (xs (i_ + 2)))] μ1
  have hM1 := hM.kM hk1
  refine V_aload_n hX dL_law_505 2 rfl ?_
  refine V_aload_n hX dL_law_506 0 rfl ?_
  refine V_iload_n hX dL_law_507 3 rfl ?_
  refine V_iconst (v := nI 1) hX dL_law_508 (by decide) ?_
  refine V_iaddN hX dL_law_509 ?_
  refine V_sld (j := i_ + 1) hX hs (by omega) (by omega) dL_law_510 ?_
  refine V_aload_n hX dL_law_511 0 rfl ?_
  refine V_iload_n hX dL_law_512 3 rfl ?_
  refine V_iconst (v := nI 2) hX dL_law_513 (by decide) ?_
  refine V_iaddN hX dL_law_514 ?_
  refine V_sld (j := i_ + 2) hX hs (by omega) (by omega) dL_law_515 ?_
  refine V_callV (As := [.int (xs (i_ + 1)), .int (xs (i_ + 2))]) (st := [.int (orderS P L S (xs (i_ + 1)) (xs (i_ + 2)))]) hX mL_65 rfl (kM_order hM1 hok.1 hok.2.1 (fun μ2 hM2 hk2 => ?_)) rfl (Nat.le_of_ble_eq_true rfl) (Nat.le_of_ble_eq_true rfl) dL_law_516
  show V G 4 X 519 [(0, .ref 2000), (1, .ref 0), (2, .ref 69), (3, .int (nI i_))] [.int (orderS P L S (xs (i_ + 1)) (xs (i_ + 2))), .int (orderS P L S (xs (i_ + 1)) (xs (i_ + 2)))] μ2
  have hC2 := hC1.kC hk2
  refine V_icmp_eq (tgt := 933) hX dL_law_519 (by decide) (fun c519 => ?_) (fun c519 => ?_)
  · exact hN P L S κ I μ2 hok hC2 hM2
  · exact absurd rfl c519
set_option maxRecDepth 100000 in
set_option maxHeartbeats 4000000 in
theorem law_12 {G : VG} {d : Nat} {X : VX} {μ : VS} {P : PC} {L : Nat} {S κ : Nat → Nat} {I : Nat → PC} {i_ L_ : Nat} {xs : Nat → Int32} (hX : Cx G (d + 20) x code 4 ret X) (hs : scr G X L_ xs) (hi : i_ + 7 ≤ L_) (hL : L_ ≤ 3584) (hok : okS P L S κ I) (hC : RC μ P L S κ I) (hM : RM μ P L S κ I) (hN : ∀ (P : PC) (L : Nat) (S κ : Nat → Nat) (I : Nat → PC) (μ : VS), okS P L S κ I → RC μ P L S κ I → RM μ P L S κ I → V G 4 X 933 [(0, .ref 2000), (1, .ref 0), (2, .ref 69), (3, .int (nI i_))] [] μ) : V G 4 X 524 [(0, .ref 2000), (1, .ref 0), (2, .ref 69), (3, .int (nI i_))] [] μ := by
  refine V_aload_n hX dL_law_524 1 rfl ?_
  refine V_aload_n hX dL_law_525 0 rfl ?_
  refine V_iload_n hX dL_law_526 3 rfl ?_
  refine V_iconst (v := nI 1) hX dL_law_527 (by decide) ?_
  refine V_iaddN hX dL_law_528 ?_
  refine V_sld (j := i_ + 1) hX hs (by omega) (by omega) dL_law_529 ?_
  refine V_callV (As := [.int (xs (i_ + 1))]) (st := []) hX mL_66 rfl (kC_start hC hok.1 hok.2.1 (fun μ1 hC1 hk1 => ?_)) rfl (Nat.le_of_ble_eq_true rfl) (Nat.le_of_ble_eq_true rfl) dL_law_530
  show V G 4 X 533 [(0, .ref 2000), (1, .ref 0), (2, .ref 69), (3, .int (nI i_))] [.int (startS P L S (xs (i_ + 1)))] μ1
  have hM1 := hM.kM hk1
  refine V_aload_n hX dL_law_533 2 rfl ?_
  refine V_aload_n hX dL_law_534 0 rfl ?_
  refine V_iload_n hX dL_law_535 3 rfl ?_
  refine V_iconst (v := nI 1) hX dL_law_536 (by decide) ?_
  refine V_iaddN hX dL_law_537 ?_
  refine V_sld (j := i_ + 1) hX hs (by omega) (by omega) dL_law_538 ?_
  refine V_callV (As := [.int (xs (i_ + 1))]) (st := [.int (startS P L S (xs (i_ + 1)))]) hX mL_69 rfl (kM_start hM1 hok.1 hok.2.1 (fun μ2 hM2 hk2 => ?_)) rfl (Nat.le_of_ble_eq_true rfl) (Nat.le_of_ble_eq_true rfl) dL_law_539
  show V G 4 X 542 [(0, .ref 2000), (1, .ref 0), (2, .ref 69), (3, .int (nI i_))] [.int (startS P L S (xs (i_ + 1))), .int (startS P L S (xs (i_ + 1)))] μ2
  have hC2 := hC1.kC hk2
  refine V_icmp_eq (tgt := 933) hX dL_law_542 (by decide) (fun c542 => ?_) (fun c542 => ?_)
  · exact hN P L S κ I μ2 hok hC2 hM2
  · exact absurd rfl c542
set_option maxRecDepth 100000 in
set_option maxHeartbeats 4000000 in
theorem law_13 {G : VG} {d : Nat} {X : VX} {μ : VS} {P : PC} {L : Nat} {S κ : Nat → Nat} {I : Nat → PC} {i_ L_ : Nat} {xs : Nat → Int32} (hX : Cx G (d + 20) x code 4 ret X) (hs : scr G X L_ xs) (hi : i_ + 7 ≤ L_) (hL : L_ ≤ 3584) (hok : okS P L S κ I) (hC : RC μ P L S κ I) (hM : RM μ P L S κ I) (hN : ∀ (P : PC) (L : Nat) (S κ : Nat → Nat) (I : Nat → PC) (μ : VS), okS P L S κ I → RC μ P L S κ I → RM μ P L S κ I → V G 4 X 933 [(0, .ref 2000), (1, .ref 0), (2, .ref 69), (3, .int (nI i_))] [] μ) : V G 4 X 547 [(0, .ref 2000), (1, .ref 0), (2, .ref 69), (3, .int (nI i_))] [] μ := by
  refine V_aload_n hX dL_law_547 1 rfl ?_
  refine V_aload_n hX dL_law_548 0 rfl ?_
  refine V_iload_n hX dL_law_549 3 rfl ?_
  refine V_iconst (v := nI 1) hX dL_law_550 (by decide) ?_
  refine V_iaddN hX dL_law_551 ?_
  refine V_sld (j := i_ + 1) hX hs (by omega) (by omega) dL_law_552 ?_
  refine V_callV (As := [.int (xs (i_ + 1))]) (st := []) hX mL_70 rfl (kC_seated hC hok.1 hok.2.1 (fun μ1 hC1 hk1 => ?_)) rfl (Nat.le_of_ble_eq_true rfl) (Nat.le_of_ble_eq_true rfl) dL_law_553
  show V G 4 X 556 [(0, .ref 2000), (1, .ref 0), (2, .ref 69), (3, .int (nI i_))] [.int (seatedS P L S (xs (i_ + 1)))] μ1
  have hM1 := hM.kM hk1
  refine V_aload_n hX dL_law_556 2 rfl ?_
  refine V_aload_n hX dL_law_557 0 rfl ?_
  refine V_iload_n hX dL_law_558 3 rfl ?_
  refine V_iconst (v := nI 1) hX dL_law_559 (by decide) ?_
  refine V_iaddN hX dL_law_560 ?_
  refine V_sld (j := i_ + 1) hX hs (by omega) (by omega) dL_law_561 ?_
  refine V_callV (As := [.int (xs (i_ + 1))]) (st := [.int (seatedS P L S (xs (i_ + 1)))]) hX mL_73 rfl (kM_seated hM1 hok.1 hok.2.1 (fun μ2 hM2 hk2 => ?_)) rfl (Nat.le_of_ble_eq_true rfl) (Nat.le_of_ble_eq_true rfl) dL_law_562
  show V G 4 X 565 [(0, .ref 2000), (1, .ref 0), (2, .ref 69), (3, .int (nI i_))] [.int (seatedS P L S (xs (i_ + 1))), .int (seatedS P L S (xs (i_ + 1)))] μ2
  have hC2 := hC1.kC hk2
  refine V_icmp_eq (tgt := 933) hX dL_law_565 (by decide) (fun c565 => ?_) (fun c565 => ?_)
  · exact hN P L S κ I μ2 hok hC2 hM2
  · exact absurd rfl c565
set_option maxRecDepth 100000 in
set_option maxHeartbeats 4000000 in
theorem law_14 {G : VG} {d : Nat} {X : VX} {μ : VS} {P : PC} {L : Nat} {S κ : Nat → Nat} {I : Nat → PC} {i_ L_ : Nat} {xs : Nat → Int32} (hX : Cx G (d + 20) x code 4 ret X) (hs : scr G X L_ xs) (hi : i_ + 7 ≤ L_) (hL : L_ ≤ 3584) (hok : okS P L S κ I) (hC : RC μ P L S κ I) (hM : RM μ P L S κ I) (hN : ∀ (P : PC) (L : Nat) (S κ : Nat → Nat) (I : Nat → PC) (μ : VS), okS P L S κ I → RC μ P L S κ I → RM μ P L S κ I → V G 4 X 933 [(0, .ref 2000), (1, .ref 0), (2, .ref 69), (3, .int (nI i_))] [] μ) : V G 4 X 570 [(0, .ref 2000), (1, .ref 0), (2, .ref 69), (3, .int (nI i_))] [] μ := by
  refine V_aload_n hX dL_law_570 1 rfl ?_
  refine V_aload_n hX dL_law_571 0 rfl ?_
  refine V_iload_n hX dL_law_572 3 rfl ?_
  refine V_iconst (v := nI 1) hX dL_law_573 (by decide) ?_
  refine V_iaddN hX dL_law_574 ?_
  refine V_sld (j := i_ + 1) hX hs (by omega) (by omega) dL_law_575 ?_
  refine V_aload_n hX dL_law_576 0 rfl ?_
  refine V_iload_n hX dL_law_577 3 rfl ?_
  refine V_iconst (v := nI 2) hX dL_law_578 (by decide) ?_
  refine V_iaddN hX dL_law_579 ?_
  refine V_sld (j := i_ + 2) hX hs (by omega) (by omega) dL_law_580 ?_
  refine V_callV (As := [.int (xs (i_ + 1)), .int (xs (i_ + 2))]) (st := []) hX mL_74 rfl (kC_hired hC hok.1 hok.2.1 (fun μ1 hC1 hk1 => ?_)) rfl (Nat.le_of_ble_eq_true rfl) (Nat.le_of_ble_eq_true rfl) dL_law_581
  show V G 4 X 584 [(0, .ref 2000), (1, .ref 0), (2, .ref 69), (3, .int (nI i_))] [.int (hiredS P L S (xs (i_ + 1)) (xs (i_ + 2)))] μ1
  have hM1 := hM.kM hk1
  refine V_aload_n hX dL_law_584 2 rfl ?_
  refine V_aload_n hX dL_law_585 0 rfl ?_
  refine V_iload_n hX dL_law_586 3 rfl ?_
  refine V_iconst (v := nI 1) hX dL_law_587 (by decide) ?_
  refine V_iaddN hX dL_law_588 ?_
  refine V_sld (j := i_ + 1) hX hs (by omega) (by omega) dL_law_589 ?_
  refine V_aload_n hX dL_law_590 0 rfl ?_
  refine V_iload_n hX dL_law_591 3 rfl ?_
  refine V_iconst (v := nI 2) hX dL_law_592 (by decide) ?_
  refine V_iaddN hX dL_law_593 ?_
  refine V_sld (j := i_ + 2) hX hs (by omega) (by omega) dL_law_594 ?_
  refine V_callV (As := [.int (xs (i_ + 1)), .int (xs (i_ + 2))]) (st := [.int (hiredS P L S (xs (i_ + 1)) (xs (i_ + 2)))]) hX mL_77 rfl (kM_hired hM1 hok.1 hok.2.1 (fun μ2 hM2 hk2 => ?_)) rfl (Nat.le_of_ble_eq_true rfl) (Nat.le_of_ble_eq_true rfl) dL_law_595
  show V G 4 X 598 [(0, .ref 2000), (1, .ref 0), (2, .ref 69), (3, .int (nI i_))] [.int (hiredS P L S (xs (i_ + 1)) (xs (i_ + 2))), .int (hiredS P L S (xs (i_ + 1)) (xs (i_ + 2)))] μ2
  have hC2 := hC1.kC hk2
  refine V_icmp_eq (tgt := 933) hX dL_law_598 (by decide) (fun c598 => ?_) (fun c598 => ?_)
  · exact hN P L S κ I μ2 hok hC2 hM2
  · exact absurd rfl c598
set_option maxRecDepth 100000 in
set_option maxHeartbeats 4000000 in
theorem law_15 {G : VG} {d : Nat} {X : VX} {μ : VS} {P : PC} {L : Nat} {S κ : Nat → Nat} {I : Nat → PC} {i_ L_ : Nat} {xs : Nat → Int32} (hX : Cx G (d + 20) x code 4 ret X) (hs : scr G X L_ xs) (hi : i_ + 7 ≤ L_) (hL : L_ ≤ 3584) (hok : okS P L S κ I) (hC : RC μ P L S κ I) (hM : RM μ P L S κ I) (hN : ∀ (P : PC) (L : Nat) (S κ : Nat → Nat) (I : Nat → PC) (μ : VS), okS P L S κ I → RC μ P L S κ I → RM μ P L S κ I → V G 4 X 933 [(0, .ref 2000), (1, .ref 0), (2, .ref 69), (3, .int (nI i_))] [] μ) : V G 4 X 603 [(0, .ref 2000), (1, .ref 0), (2, .ref 69), (3, .int (nI i_))] [] μ := by
  refine V_aload_n hX dL_law_603 1 rfl ?_
  refine V_callV (As := []) (st := []) hX mL_78 rfl (kC_least hC hok.1 hok.2.1 (fun μ1 hC1 hk1 => ?_)) rfl (Nat.le_of_ble_eq_true rfl) (Nat.le_of_ble_eq_true rfl) dL_law_604
  show V G 4 X 607 [(0, .ref 2000), (1, .ref 0), (2, .ref 69), (3, .int (nI i_))] [.int (leastS P L S)] μ1
  have hM1 := hM.kM hk1
  refine V_aload_n hX dL_law_607 2 rfl ?_
  refine V_callV (As := []) (st := [.int (leastS P L S)]) hX mL_81 rfl (kM_least hM1 hok.1 hok.2.1 (fun μ2 hM2 hk2 => ?_)) rfl (Nat.le_of_ble_eq_true rfl) (Nat.le_of_ble_eq_true rfl) dL_law_608
  show V G 4 X 611 [(0, .ref 2000), (1, .ref 0), (2, .ref 69), (3, .int (nI i_))] [.int (leastS P L S), .int (leastS P L S)] μ2
  have hC2 := hC1.kC hk2
  refine V_icmp_eq (tgt := 933) hX dL_law_611 (by decide) (fun c611 => ?_) (fun c611 => ?_)
  · exact hN P L S κ I μ2 hok hC2 hM2
  · exact absurd rfl c611
set_option maxRecDepth 100000 in
set_option maxHeartbeats 4000000 in
theorem law_16 {G : VG} {d : Nat} {X : VX} {μ : VS} {P : PC} {L : Nat} {S κ : Nat → Nat} {I : Nat → PC} {i_ L_ : Nat} {xs : Nat → Int32} (hX : Cx G (d + 20) x code 4 ret X) (hs : scr G X L_ xs) (hi : i_ + 7 ≤ L_) (hL : L_ ≤ 3584) (hok : okS P L S κ I) (hC : RC μ P L S κ I) (hM : RM μ P L S κ I) (hN : ∀ (P : PC) (L : Nat) (S κ : Nat → Nat) (I : Nat → PC) (μ : VS), okS P L S κ I → RC μ P L S κ I → RM μ P L S κ I → V G 4 X 933 [(0, .ref 2000), (1, .ref 0), (2, .ref 69), (3, .int (nI i_))] [] μ) : V G 4 X 616 [(0, .ref 2000), (1, .ref 0), (2, .ref 69), (3, .int (nI i_))] [] μ := by
  refine V_aload_n hX dL_law_616 1 rfl ?_
  refine V_aload_n hX dL_law_617 0 rfl ?_
  refine V_iload_n hX dL_law_618 3 rfl ?_
  refine V_iconst (v := nI 1) hX dL_law_619 (by decide) ?_
  refine V_iaddN hX dL_law_620 ?_
  refine V_sld (j := i_ + 1) hX hs (by omega) (by omega) dL_law_621 ?_
  refine V_aload_n hX dL_law_622 0 rfl ?_
  refine V_iload_n hX dL_law_623 3 rfl ?_
  refine V_iconst (v := nI 2) hX dL_law_624 (by decide) ?_
  refine V_iaddN hX dL_law_625 ?_
  refine V_sld (j := i_ + 2) hX hs (by omega) (by omega) dL_law_626 ?_
  refine V_callV (As := [.int (xs (i_ + 1)), .int (xs (i_ + 2))]) (st := []) hX mL_82 rfl (kC_seen hC hok.1.2.2.2.2.2.2.1 (fun μ1 hC1 hk1 => ?_)) rfl (Nat.le_of_ble_eq_true rfl) (Nat.le_of_ble_eq_true rfl) dL_law_627
  show V G 4 X 630 [(0, .ref 2000), (1, .ref 0), (2, .ref 69), (3, .int (nI i_))] [.int ((seenS P (xs (i_ + 1)) (xs (i_ + 2))).1)] μ1
  have hM1 := hM.kM hk1
  refine V_aload_n hX dL_law_630 2 rfl ?_
  refine V_aload_n hX dL_law_631 0 rfl ?_
  refine V_iload_n hX dL_law_632 3 rfl ?_
  refine V_iconst (v := nI 1) hX dL_law_633 (by decide) ?_
  refine V_iaddN hX dL_law_634 ?_
  refine V_sld (j := i_ + 1) hX hs (by omega) (by omega) dL_law_635 ?_
  refine V_aload_n hX dL_law_636 0 rfl ?_
  refine V_iload_n hX dL_law_637 3 rfl ?_
  refine V_iconst (v := nI 2) hX dL_law_638 (by decide) ?_
  refine V_iaddN hX dL_law_639 ?_
  refine V_sld (j := i_ + 2) hX hs (by omega) (by omega) dL_law_640 ?_
  refine V_callV (As := [.int (xs (i_ + 1)), .int (xs (i_ + 2))]) (st := [.int ((seenS P (xs (i_ + 1)) (xs (i_ + 2))).1)]) hX mL_85 rfl (kM_seen hM1 hok.1.2.2.2.2.2.2.1 (fun μ2 hM2 hk2 => ?_)) rfl (Nat.le_of_ble_eq_true rfl) (Nat.le_of_ble_eq_true rfl) dL_law_641
  show V G 4 X 644 [(0, .ref 2000), (1, .ref 0), (2, .ref 69), (3, .int (nI i_))] [.int ((seenS P (xs (i_ + 1)) (xs (i_ + 2))).1), .int ((seenS P (xs (i_ + 1)) (xs (i_ + 2))).1)] μ2
  have hC2 := hC1.kC hk2
  refine V_icmp_eq (tgt := 933) hX dL_law_644 (by decide) (fun c644 => ?_) (fun c644 => ?_)
  · exact hN (seenS P (xs (i_ + 1)) (xs (i_ + 2))).2 L S κ I μ2 ⟨ok_seen hok.1, hok.2.1, hok.2.2⟩ hC2 hM2
  · exact absurd rfl c644
set_option maxRecDepth 100000 in
set_option maxHeartbeats 4000000 in
theorem law_17 {G : VG} {d : Nat} {X : VX} {μ : VS} {P : PC} {L : Nat} {S κ : Nat → Nat} {I : Nat → PC} {i_ L_ : Nat} {xs : Nat → Int32} (hX : Cx G (d + 20) x code 4 ret X) (hs : scr G X L_ xs) (hi : i_ + 7 ≤ L_) (hL : L_ ≤ 3584) (hok : okS P L S κ I) (hC : RC μ P L S κ I) (hM : RM μ P L S κ I) (hN : ∀ (P : PC) (L : Nat) (S κ : Nat → Nat) (I : Nat → PC) (μ : VS), okS P L S κ I → RC μ P L S κ I → RM μ P L S κ I → V G 4 X 933 [(0, .ref 2000), (1, .ref 0), (2, .ref 69), (3, .int (nI i_))] [] μ) : V G 4 X 649 [(0, .ref 2000), (1, .ref 0), (2, .ref 69), (3, .int (nI i_))] [] μ := by
  refine V_aload_n hX dL_law_649 1 rfl ?_
  refine V_callV (As := []) (st := []) hX mL_86 rfl (kC_forget hC (fun μ1 hC1 hk1 => ?_)) rfl (Nat.le_of_ble_eq_true rfl) (Nat.le_of_ble_eq_true rfl) dL_law_650
  show V G 4 X 653 [(0, .ref 2000), (1, .ref 0), (2, .ref 69), (3, .int (nI i_))] [.int (nI (P 0 6))] μ1
  have hM1 := hM.kM hk1
  refine V_aload_n hX dL_law_653 2 rfl ?_
  refine V_callV (As := []) (st := [.int (nI (P 0 6))]) hX mL_89 rfl (kM_forget hM1 (fun μ2 hM2 hk2 => ?_)) rfl (Nat.le_of_ble_eq_true rfl) (Nat.le_of_ble_eq_true rfl) dL_law_654
  show V G 4 X 657 [(0, .ref 2000), (1, .ref 0), (2, .ref 69), (3, .int (nI i_))] [.int (nI (P 0 6)), .int (nI (P 0 6))] μ2
  have hC2 := hC1.kC hk2
  refine V_icmp_eq (tgt := 933) hX dL_law_657 (by decide) (fun c657 => ?_) (fun c657 => ?_)
  · exact hN (vup P 0 6 0) L S κ I μ2 ⟨ok_forget hok.1, hok.2.1, hok.2.2⟩ hC2 hM2
  · exact absurd rfl c657
set_option maxRecDepth 100000 in
set_option maxHeartbeats 4000000 in
theorem law_18 {G : VG} {d : Nat} {X : VX} {μ : VS} {P : PC} {L : Nat} {S κ : Nat → Nat} {I : Nat → PC} {i_ L_ : Nat} {xs : Nat → Int32} (hX : Cx G (d + 20) x code 4 ret X) (hs : scr G X L_ xs) (hi : i_ + 7 ≤ L_) (hL : L_ ≤ 3584) (hok : okS P L S κ I) (hC : RC μ P L S κ I) (hM : RM μ P L S κ I) (hN : ∀ (P : PC) (L : Nat) (S κ : Nat → Nat) (I : Nat → PC) (μ : VS), okS P L S κ I → RC μ P L S κ I → RM μ P L S κ I → V G 4 X 933 [(0, .ref 2000), (1, .ref 0), (2, .ref 69), (3, .int (nI i_))] [] μ) : V G 4 X 662 [(0, .ref 2000), (1, .ref 0), (2, .ref 69), (3, .int (nI i_))] [] μ := by
  refine V_aload_n hX dL_law_662 1 rfl ?_
  refine V_aload_n hX dL_law_663 0 rfl ?_
  refine V_iload_n hX dL_law_664 3 rfl ?_
  refine V_iconst (v := nI 1) hX dL_law_665 (by decide) ?_
  refine V_iaddN hX dL_law_666 ?_
  refine V_sld (j := i_ + 1) hX hs (by omega) (by omega) dL_law_667 ?_
  refine V_callV (As := [.int (xs (i_ + 1))]) (st := []) hX mL_90 rfl (kC_preached hC hok.1 hok.2.1 (fun μ1 hC1 hk1 => ?_)) rfl (Nat.le_of_ble_eq_true rfl) (Nat.le_of_ble_eq_true rfl) dL_law_668
  show V G 4 X 671 [(0, .ref 2000), (1, .ref 0), (2, .ref 69), (3, .int (nI i_))] [.int (preS P L S (xs (i_ + 1)))] μ1
  have hM1 := hM.kM hk1
  refine V_aload_n hX dL_law_671 2 rfl ?_
  refine V_aload_n hX dL_law_672 0 rfl ?_
  refine V_iload_n hX dL_law_673 3 rfl ?_
  refine V_iconst (v := nI 1) hX dL_law_674 (by decide) ?_
  refine V_iaddN hX dL_law_675 ?_
  refine V_sld (j := i_ + 1) hX hs (by omega) (by omega) dL_law_676 ?_
  refine V_callV (As := [.int (xs (i_ + 1))]) (st := [.int (preS P L S (xs (i_ + 1)))]) hX mL_93 rfl (kM_preached hM1 hok.1 hok.2.1 (fun μ2 hM2 hk2 => ?_)) rfl (Nat.le_of_ble_eq_true rfl) (Nat.le_of_ble_eq_true rfl) dL_law_677
  show V G 4 X 680 [(0, .ref 2000), (1, .ref 0), (2, .ref 69), (3, .int (nI i_))] [.int (preS P L S (xs (i_ + 1))), .int (preS P L S (xs (i_ + 1)))] μ2
  have hC2 := hC1.kC hk2
  refine V_icmp_eq (tgt := 933) hX dL_law_680 (by decide) (fun c680 => ?_) (fun c680 => ?_)
  · exact hN P L S κ I μ2 hok hC2 hM2
  · exact absurd rfl c680
set_option maxRecDepth 100000 in
set_option maxHeartbeats 4000000 in
theorem law_19 {G : VG} {d : Nat} {X : VX} {μ : VS} {P : PC} {L : Nat} {S κ : Nat → Nat} {I : Nat → PC} {i_ L_ : Nat} {xs : Nat → Int32} (hX : Cx G (d + 20) x code 4 ret X) (hs : scr G X L_ xs) (hi : i_ + 7 ≤ L_) (hL : L_ ≤ 3584) (hok : okS P L S κ I) (hC : RC μ P L S κ I) (hM : RM μ P L S κ I) (hN : ∀ (P : PC) (L : Nat) (S κ : Nat → Nat) (I : Nat → PC) (μ : VS), okS P L S κ I → RC μ P L S κ I → RM μ P L S κ I → V G 4 X 933 [(0, .ref 2000), (1, .ref 0), (2, .ref 69), (3, .int (nI i_))] [] μ) : V G 4 X 685 [(0, .ref 2000), (1, .ref 0), (2, .ref 69), (3, .int (nI i_))] [] μ := by
  refine V_aload_n hX dL_law_685 1 rfl ?_
  refine V_callV (As := []) (st := []) hX mL_94 rfl (kC_surely hC hok.1 hok.2.1 (fun μ1 hC1 hk1 => ?_)) rfl (Nat.le_of_ble_eq_true rfl) (Nat.le_of_ble_eq_true rfl) dL_law_686
  show V G 4 X 689 [(0, .ref 2000), (1, .ref 0), (2, .ref 69), (3, .int (nI i_))] [.int (surS P L S)] μ1
  have hM1 := hM.kM hk1
  refine V_aload_n hX dL_law_689 2 rfl ?_
  refine V_callV (As := []) (st := [.int (surS P L S)]) hX mL_97 rfl (kM_surely hM1 hok.1 hok.2.1 (fun μ2 hM2 hk2 => ?_)) rfl (Nat.le_of_ble_eq_true rfl) (Nat.le_of_ble_eq_true rfl) dL_law_690
  show V G 4 X 693 [(0, .ref 2000), (1, .ref 0), (2, .ref 69), (3, .int (nI i_))] [.int (surS P L S), .int (surS P L S)] μ2
  have hC2 := hC1.kC hk2
  refine V_icmp_eq (tgt := 933) hX dL_law_693 (by decide) (fun c693 => ?_) (fun c693 => ?_)
  · exact hN P L S κ I μ2 hok hC2 hM2
  · exact absurd rfl c693
set_option maxRecDepth 100000 in
set_option maxHeartbeats 4000000 in
theorem law_20 {G : VG} {d : Nat} {X : VX} {μ : VS} {P : PC} {L : Nat} {S κ : Nat → Nat} {I : Nat → PC} {i_ L_ : Nat} {xs : Nat → Int32} (hX : Cx G (d + 20) x code 4 ret X) (hs : scr G X L_ xs) (hi : i_ + 7 ≤ L_) (hL : L_ ≤ 3584) (hok : okS P L S κ I) (hC : RC μ P L S κ I) (hM : RM μ P L S κ I) (hN : ∀ (P : PC) (L : Nat) (S κ : Nat → Nat) (I : Nat → PC) (μ : VS), okS P L S κ I → RC μ P L S κ I → RM μ P L S κ I → V G 4 X 933 [(0, .ref 2000), (1, .ref 0), (2, .ref 69), (3, .int (nI i_))] [] μ) : V G 4 X 698 [(0, .ref 2000), (1, .ref 0), (2, .ref 69), (3, .int (nI i_))] [] μ := by
  refine V_aload_n hX dL_law_698 1 rfl ?_
  refine V_aload_n hX dL_law_699 0 rfl ?_
  refine V_iload_n hX dL_law_700 3 rfl ?_
  refine V_iconst (v := nI 1) hX dL_law_701 (by decide) ?_
  refine V_iaddN hX dL_law_702 ?_
  refine V_sld (j := i_ + 1) hX hs (by omega) (by omega) dL_law_703 ?_
  refine V_aload_n hX dL_law_704 0 rfl ?_
  refine V_iload_n hX dL_law_705 3 rfl ?_
  refine V_iconst (v := nI 2) hX dL_law_706 (by decide) ?_
  refine V_iaddN hX dL_law_707 ?_
  refine V_sld (j := i_ + 2) hX hs (by omega) (by omega) dL_law_708 ?_
  refine V_callV (As := [.int (xs (i_ + 1)), .int (xs (i_ + 2))]) (st := []) hX mL_98 rfl (kC_dips hC hok.1 hok.2.1 (fun μ1 hC1 hk1 => ?_)) rfl (Nat.le_of_ble_eq_true rfl) (Nat.le_of_ble_eq_true rfl) dL_law_709
  show V G 4 X 712 [(0, .ref 2000), (1, .ref 0), (2, .ref 69), (3, .int (nI i_))] [.int (dipsS P L S (xs (i_ + 1)) (xs (i_ + 2)))] μ1
  have hM1 := hM.kM hk1
  refine V_aload_n hX dL_law_712 2 rfl ?_
  refine V_aload_n hX dL_law_713 0 rfl ?_
  refine V_iload_n hX dL_law_714 3 rfl ?_
  refine V_iconst (v := nI 1) hX dL_law_715 (by decide) ?_
  refine V_iaddN hX dL_law_716 ?_
  refine V_sld (j := i_ + 1) hX hs (by omega) (by omega) dL_law_717 ?_
  refine V_aload_n hX dL_law_718 0 rfl ?_
  refine V_iload_n hX dL_law_719 3 rfl ?_
  refine V_iconst (v := nI 2) hX dL_law_720 (by decide) ?_
  refine V_iaddN hX dL_law_721 ?_
  refine V_sld (j := i_ + 2) hX hs (by omega) (by omega) dL_law_722 ?_
  refine V_callV (As := [.int (xs (i_ + 1)), .int (xs (i_ + 2))]) (st := [.int (dipsS P L S (xs (i_ + 1)) (xs (i_ + 2)))]) hX mL_101 rfl (kM_dips hM1 hok.1 hok.2.1 (fun μ2 hM2 hk2 => ?_)) rfl (Nat.le_of_ble_eq_true rfl) (Nat.le_of_ble_eq_true rfl) dL_law_723
  show V G 4 X 726 [(0, .ref 2000), (1, .ref 0), (2, .ref 69), (3, .int (nI i_))] [.int (dipsS P L S (xs (i_ + 1)) (xs (i_ + 2))), .int (dipsS P L S (xs (i_ + 1)) (xs (i_ + 2)))] μ2
  have hC2 := hC1.kC hk2
  refine V_icmp_eq (tgt := 933) hX dL_law_726 (by decide) (fun c726 => ?_) (fun c726 => ?_)
  · exact hN P L S κ I μ2 hok hC2 hM2
  · exact absurd rfl c726
set_option maxRecDepth 100000 in
set_option maxHeartbeats 4000000 in
theorem law_21 {G : VG} {d : Nat} {X : VX} {μ : VS} {P : PC} {L : Nat} {S κ : Nat → Nat} {I : Nat → PC} {i_ L_ : Nat} {xs : Nat → Int32} (hX : Cx G (d + 20) x code 4 ret X) (hs : scr G X L_ xs) (hi : i_ + 7 ≤ L_) (hL : L_ ≤ 3584) (hok : okS P L S κ I) (hC : RC μ P L S κ I) (hM : RM μ P L S κ I) (hN : ∀ (P : PC) (L : Nat) (S κ : Nat → Nat) (I : Nat → PC) (μ : VS), okS P L S κ I → RC μ P L S κ I → RM μ P L S κ I → V G 4 X 933 [(0, .ref 2000), (1, .ref 0), (2, .ref 69), (3, .int (nI i_))] [] μ) : V G 4 X 731 [(0, .ref 2000), (1, .ref 0), (2, .ref 69), (3, .int (nI i_))] [] μ := by
  refine V_aload_n hX dL_law_731 1 rfl ?_
  refine V_aload_n hX dL_law_732 0 rfl ?_
  refine V_iload_n hX dL_law_733 3 rfl ?_
  refine V_iconst (v := nI 1) hX dL_law_734 (by decide) ?_
  refine V_iaddN hX dL_law_735 ?_
  refine V_sld (j := i_ + 1) hX hs (by omega) (by omega) dL_law_736 ?_
  refine V_callV (As := [.int (xs (i_ + 1))]) (st := []) hX mL_102 rfl (kC_alike hC hok.1 hok.2.1 (fun μ1 hC1 hk1 => ?_)) rfl (Nat.le_of_ble_eq_true rfl) (Nat.le_of_ble_eq_true rfl) dL_law_737
  show V G 4 X 740 [(0, .ref 2000), (1, .ref 0), (2, .ref 69), (3, .int (nI i_))] [.int (alikeS P L S (xs (i_ + 1)))] μ1
  have hM1 := hM.kM hk1
  refine V_aload_n hX dL_law_740 2 rfl ?_
  refine V_aload_n hX dL_law_741 0 rfl ?_
  refine V_iload_n hX dL_law_742 3 rfl ?_
  refine V_iconst (v := nI 1) hX dL_law_743 (by decide) ?_
  refine V_iaddN hX dL_law_744 ?_
  refine V_sld (j := i_ + 1) hX hs (by omega) (by omega) dL_law_745 ?_
  refine V_callV (As := [.int (xs (i_ + 1))]) (st := [.int (alikeS P L S (xs (i_ + 1)))]) hX mL_105 rfl (kM_alike hM1 hok.1 hok.2.1 (fun μ2 hM2 hk2 => ?_)) rfl (Nat.le_of_ble_eq_true rfl) (Nat.le_of_ble_eq_true rfl) dL_law_746
  show V G 4 X 749 [(0, .ref 2000), (1, .ref 0), (2, .ref 69), (3, .int (nI i_))] [.int (alikeS P L S (xs (i_ + 1))), .int (alikeS P L S (xs (i_ + 1)))] μ2
  have hC2 := hC1.kC hk2
  refine V_icmp_eq (tgt := 933) hX dL_law_749 (by decide) (fun c749 => ?_) (fun c749 => ?_)
  · exact hN P L S κ I μ2 hok hC2 hM2
  · exact absurd rfl c749
set_option maxRecDepth 100000 in
set_option maxHeartbeats 4000000 in
theorem law_22 {G : VG} {d : Nat} {X : VX} {μ : VS} {P : PC} {L : Nat} {S κ : Nat → Nat} {I : Nat → PC} {i_ L_ : Nat} {xs : Nat → Int32} (hX : Cx G (d + 20) x code 4 ret X) (hs : scr G X L_ xs) (hi : i_ + 7 ≤ L_) (hL : L_ ≤ 3584) (hok : okS P L S κ I) (hC : RC μ P L S κ I) (hM : RM μ P L S κ I) (hN : ∀ (P : PC) (L : Nat) (S κ : Nat → Nat) (I : Nat → PC) (μ : VS), okS P L S κ I → RC μ P L S κ I → RM μ P L S κ I → V G 4 X 933 [(0, .ref 2000), (1, .ref 0), (2, .ref 69), (3, .int (nI i_))] [] μ) : V G 4 X 754 [(0, .ref 2000), (1, .ref 0), (2, .ref 69), (3, .int (nI i_))] [] μ := by
  refine V_aload_n hX dL_law_754 1 rfl ?_
  refine V_aload_n hX dL_law_755 0 rfl ?_
  refine V_iload_n hX dL_law_756 3 rfl ?_
  refine V_iconst (v := nI 1) hX dL_law_757 (by decide) ?_
  refine V_iaddN hX dL_law_758 ?_
  refine V_sld (j := i_ + 1) hX hs (by omega) (by omega) dL_law_759 ?_
  refine V_callV (As := [.int (xs (i_ + 1))]) (st := []) hX mL_106 rfl (kC_parishes hC hok.1 hok.2.1 (fun μ1 hC1 hk1 => ?_)) rfl (Nat.le_of_ble_eq_true rfl) (Nat.le_of_ble_eq_true rfl) dL_law_760
  show V G 4 X 763 [(0, .ref 2000), (1, .ref 0), (2, .ref 69), (3, .int (nI i_))] [.int (parS P (xs (i_ + 1)))] μ1
  have hM1 := hM.kM hk1
  refine V_aload_n hX dL_law_763 2 rfl ?_
  refine V_aload_n hX dL_law_764 0 rfl ?_
  refine V_iload_n hX dL_law_765 3 rfl ?_
  refine V_iconst (v := nI 1) hX dL_law_766 (by decide) ?_
  refine V_iaddN hX dL_law_767 ?_
  refine V_sld (j := i_ + 1) hX hs (by omega) (by omega) dL_law_768 ?_
  refine V_callV (As := [.int (xs (i_ + 1))]) (st := [.int (parS P (xs (i_ + 1)))]) hX mL_109 rfl (kM_parishes hM1 hok.1 hok.2.1 (fun μ2 hM2 hk2 => ?_)) rfl (Nat.le_of_ble_eq_true rfl) (Nat.le_of_ble_eq_true rfl) dL_law_769
  show V G 4 X 772 [(0, .ref 2000), (1, .ref 0), (2, .ref 69), (3, .int (nI i_))] [.int (parS P (xs (i_ + 1))), .int (parS P (xs (i_ + 1)))] μ2
  have hC2 := hC1.kC hk2
  refine V_icmp_eq (tgt := 933) hX dL_law_772 (by decide) (fun c772 => ?_) (fun c772 => ?_)
  · exact hN P L S κ I μ2 hok hC2 hM2
  · exact absurd rfl c772
set_option maxRecDepth 100000 in
set_option maxHeartbeats 4000000 in
theorem law_23 {G : VG} {d : Nat} {X : VX} {μ : VS} {P : PC} {L : Nat} {S κ : Nat → Nat} {I : Nat → PC} {i_ L_ : Nat} {xs : Nat → Int32} (hX : Cx G (d + 20) x code 4 ret X) (hs : scr G X L_ xs) (hi : i_ + 7 ≤ L_) (hL : L_ ≤ 3584) (hok : okS P L S κ I) (hC : RC μ P L S κ I) (hM : RM μ P L S κ I) (hN : ∀ (P : PC) (L : Nat) (S κ : Nat → Nat) (I : Nat → PC) (μ : VS), okS P L S κ I → RC μ P L S κ I → RM μ P L S κ I → V G 4 X 933 [(0, .ref 2000), (1, .ref 0), (2, .ref 69), (3, .int (nI i_))] [] μ) : V G 4 X 777 [(0, .ref 2000), (1, .ref 0), (2, .ref 69), (3, .int (nI i_))] [] μ := by
  refine V_aload_n hX dL_law_777 1 rfl ?_
  refine V_aload_n hX dL_law_778 0 rfl ?_
  refine V_iload_n hX dL_law_779 3 rfl ?_
  refine V_iconst (v := nI 1) hX dL_law_780 (by decide) ?_
  refine V_iaddN hX dL_law_781 ?_
  refine V_sld (j := i_ + 1) hX hs (by omega) (by omega) dL_law_782 ?_
  refine V_aload_n hX dL_law_783 0 rfl ?_
  refine V_iload_n hX dL_law_784 3 rfl ?_
  refine V_iconst (v := nI 2) hX dL_law_785 (by decide) ?_
  refine V_iaddN hX dL_law_786 ?_
  refine V_sld (j := i_ + 2) hX hs (by omega) (by omega) dL_law_787 ?_
  refine V_aload_n hX dL_law_788 0 rfl ?_
  refine V_iload_n hX dL_law_789 3 rfl ?_
  refine V_iconst (v := nI 3) hX dL_law_790 (by decide) ?_
  refine V_iaddN hX dL_law_791 ?_
  refine V_sld (j := i_ + 3) hX hs (by omega) (by omega) dL_law_792 ?_
  refine V_callV (As := [.int (xs (i_ + 1)), .int (xs (i_ + 2)), .int (xs (i_ + 3))]) (st := []) hX mL_110 rfl (kC_cold hC hok.1 hok.2.1 (fun μ1 hC1 hk1 => ?_)) rfl (Nat.le_of_ble_eq_true rfl) (Nat.le_of_ble_eq_true rfl) dL_law_793
  show V G 4 X 796 [(0, .ref 2000), (1, .ref 0), (2, .ref 69), (3, .int (nI i_))] [.long (coldS P L S (xs (i_ + 1)) (xs (i_ + 2)) (xs (i_ + 3)))] μ1
  have hM1 := hM.kM hk1
  refine V_aload_n hX dL_law_796 2 rfl ?_
  refine V_aload_n hX dL_law_797 0 rfl ?_
  refine V_iload_n hX dL_law_798 3 rfl ?_
  refine V_iconst (v := nI 1) hX dL_law_799 (by decide) ?_
  refine V_iaddN hX dL_law_800 ?_
  refine V_sld (j := i_ + 1) hX hs (by omega) (by omega) dL_law_801 ?_
  refine V_aload_n hX dL_law_802 0 rfl ?_
  refine V_iload_n hX dL_law_803 3 rfl ?_
  refine V_iconst (v := nI 2) hX dL_law_804 (by decide) ?_
  refine V_iaddN hX dL_law_805 ?_
  refine V_sld (j := i_ + 2) hX hs (by omega) (by omega) dL_law_806 ?_
  refine V_aload_n hX dL_law_807 0 rfl ?_
  refine V_iload_n hX dL_law_808 3 rfl ?_
  refine V_iconst (v := nI 3) hX dL_law_809 (by decide) ?_
  refine V_iaddN hX dL_law_810 ?_
  refine V_sld (j := i_ + 3) hX hs (by omega) (by omega) dL_law_811 ?_
  refine V_callV (As := [.int (xs (i_ + 1)), .int (xs (i_ + 2)), .int (xs (i_ + 3))]) (st := [.long (coldS P L S (xs (i_ + 1)) (xs (i_ + 2)) (xs (i_ + 3)))]) hX mL_114 rfl (kM_cold hM1 hok.1 hok.2.1 (fun μ2 hM2 hk2 => ?_)) rfl (Nat.le_of_ble_eq_true rfl) (Nat.le_of_ble_eq_true rfl) dL_law_812
  show V G 4 X 815 [(0, .ref 2000), (1, .ref 0), (2, .ref 69), (3, .int (nI i_))] [.long (coldS P L S (xs (i_ + 1)) (xs (i_ + 2)) (xs (i_ + 3))), .long (coldS P L S (xs (i_ + 1)) (xs (i_ + 2)) (xs (i_ + 3)))] μ2
  have hC2 := hC1.kC hk2
  refine V_lcmp hX dL_law_815 ?_
  refine V_if_eq (tgt := 933) hX dL_law_816 (by decide) (fun c816 => ?_) (fun c816 => ?_)
  · exact hN P L S κ I μ2 hok hC2 hM2
  · exact absurd (cmp0.mpr rfl) c816
set_option maxRecDepth 100000 in
set_option maxHeartbeats 4000000 in
theorem law_24 {G : VG} {d : Nat} {X : VX} {μ : VS} {P : PC} {L : Nat} {S κ : Nat → Nat} {I : Nat → PC} {i_ L_ : Nat} {xs : Nat → Int32} (hX : Cx G (d + 20) x code 4 ret X) (hs : scr G X L_ xs) (hi : i_ + 7 ≤ L_) (hL : L_ ≤ 3584) (hok : okS P L S κ I) (hC : RC μ P L S κ I) (hM : RM μ P L S κ I) (hN : ∀ (P : PC) (L : Nat) (S κ : Nat → Nat) (I : Nat → PC) (μ : VS), okS P L S κ I → RC μ P L S κ I → RM μ P L S κ I → V G 4 X 933 [(0, .ref 2000), (1, .ref 0), (2, .ref 69), (3, .int (nI i_))] [] μ) : V G 4 X 821 [(0, .ref 2000), (1, .ref 0), (2, .ref 69), (3, .int (nI i_))] [] μ := by
  refine V_aload_n hX dL_law_821 1 rfl ?_
  refine V_aload_n hX dL_law_822 0 rfl ?_
  refine V_iload_n hX dL_law_823 3 rfl ?_
  refine V_iconst (v := nI 1) hX dL_law_824 (by decide) ?_
  refine V_iaddN hX dL_law_825 ?_
  refine V_sld (j := i_ + 1) hX hs (by omega) (by omega) dL_law_826 ?_
  refine V_aload_n hX dL_law_827 0 rfl ?_
  refine V_iload_n hX dL_law_828 3 rfl ?_
  refine V_iconst (v := nI 2) hX dL_law_829 (by decide) ?_
  refine V_iaddN hX dL_law_830 ?_
  refine V_sld (j := i_ + 2) hX hs (by omega) (by omega) dL_law_831 ?_
  refine V_aload_n hX dL_law_832 0 rfl ?_
  refine V_iload_n hX dL_law_833 3 rfl ?_
  refine V_iconst (v := nI 3) hX dL_law_834 (by decide) ?_
  refine V_iaddN hX dL_law_835 ?_
  refine V_sld (j := i_ + 3) hX hs (by omega) (by omega) dL_law_836 ?_
  refine V_callV (As := [.int (xs (i_ + 1)), .int (xs (i_ + 2)), .int (xs (i_ + 3))]) (st := []) hX mL_115 rfl (kC_year hC hok.1 hok.2.1 (fun μ1 hC1 hk1 => ?_)) rfl (Nat.le_of_ble_eq_true rfl) (Nat.le_of_ble_eq_true rfl) dL_law_837
  show V G 4 X 840 [(0, .ref 2000), (1, .ref 0), (2, .ref 69), (3, .int (nI i_))] [.int (yearS P (xs (i_ + 1)) (xs (i_ + 2)) (xs (i_ + 3)))] μ1
  have hM1 := hM.kM hk1
  refine V_aload_n hX dL_law_840 2 rfl ?_
  refine V_aload_n hX dL_law_841 0 rfl ?_
  refine V_iload_n hX dL_law_842 3 rfl ?_
  refine V_iconst (v := nI 1) hX dL_law_843 (by decide) ?_
  refine V_iaddN hX dL_law_844 ?_
  refine V_sld (j := i_ + 1) hX hs (by omega) (by omega) dL_law_845 ?_
  refine V_aload_n hX dL_law_846 0 rfl ?_
  refine V_iload_n hX dL_law_847 3 rfl ?_
  refine V_iconst (v := nI 2) hX dL_law_848 (by decide) ?_
  refine V_iaddN hX dL_law_849 ?_
  refine V_sld (j := i_ + 2) hX hs (by omega) (by omega) dL_law_850 ?_
  refine V_aload_n hX dL_law_851 0 rfl ?_
  refine V_iload_n hX dL_law_852 3 rfl ?_
  refine V_iconst (v := nI 3) hX dL_law_853 (by decide) ?_
  refine V_iaddN hX dL_law_854 ?_
  refine V_sld (j := i_ + 3) hX hs (by omega) (by omega) dL_law_855 ?_
  refine V_callV (As := [.int (xs (i_ + 1)), .int (xs (i_ + 2)), .int (xs (i_ + 3))]) (st := [.int (yearS P (xs (i_ + 1)) (xs (i_ + 2)) (xs (i_ + 3)))]) hX mL_118 rfl (kM_year hM1 hok.1 hok.2.1 (fun μ2 hM2 hk2 => ?_)) rfl (Nat.le_of_ble_eq_true rfl) (Nat.le_of_ble_eq_true rfl) dL_law_856
  show V G 4 X 859 [(0, .ref 2000), (1, .ref 0), (2, .ref 69), (3, .int (nI i_))] [.int (yearS P (xs (i_ + 1)) (xs (i_ + 2)) (xs (i_ + 3))), .int (yearS P (xs (i_ + 1)) (xs (i_ + 2)) (xs (i_ + 3)))] μ2
  have hC2 := hC1.kC hk2
  refine V_icmp_eq (tgt := 933) hX dL_law_859 (by decide) (fun c859 => ?_) (fun c859 => ?_)
  · exact hN P L S κ I μ2 hok hC2 hM2
  · exact absurd rfl c859
set_option maxRecDepth 100000 in
set_option maxHeartbeats 4000000 in
theorem law_25 {G : VG} {d : Nat} {X : VX} {μ : VS} {P : PC} {L : Nat} {S κ : Nat → Nat} {I : Nat → PC} {i_ L_ : Nat} {xs : Nat → Int32} (hX : Cx G (d + 20) x code 4 ret X) (hs : scr G X L_ xs) (hi : i_ + 7 ≤ L_) (hL : L_ ≤ 3584) (hok : okS P L S κ I) (hC : RC μ P L S κ I) (hM : RM μ P L S κ I) (hN : ∀ (P : PC) (L : Nat) (S κ : Nat → Nat) (I : Nat → PC) (μ : VS), okS P L S κ I → RC μ P L S κ I → RM μ P L S κ I → V G 4 X 933 [(0, .ref 2000), (1, .ref 0), (2, .ref 69), (3, .int (nI i_))] [] μ) : V G 4 X 864 [(0, .ref 2000), (1, .ref 0), (2, .ref 69), (3, .int (nI i_))] [] μ := by
  refine V_aload_n hX dL_law_864 1 rfl ?_
  refine V_aload_n hX dL_law_865 0 rfl ?_
  refine V_iload_n hX dL_law_866 3 rfl ?_
  refine V_iconst (v := nI 1) hX dL_law_867 (by decide) ?_
  refine V_iaddN hX dL_law_868 ?_
  refine V_sld (j := i_ + 1) hX hs (by omega) (by omega) dL_law_869 ?_
  refine V_callV (As := [.int (xs (i_ + 1))]) (st := []) hX mL_119 rfl (kC_image hC (fun μ1 hC1 hk1 => ?_)) rfl (Nat.le_of_ble_eq_true rfl) (Nat.le_of_ble_eq_true rfl) dL_law_870
  show V G 4 X 873 [(0, .ref 2000), (1, .ref 0), (2, .ref 69), (3, .int (nI i_))] [.int ((imageS P κ I (xs (i_ + 1))).1)] μ1
  have hM1 := hM.kM hk1
  refine V_aload_n hX dL_law_873 2 rfl ?_
  refine V_aload_n hX dL_law_874 0 rfl ?_
  refine V_iload_n hX dL_law_875 3 rfl ?_
  refine V_iconst (v := nI 1) hX dL_law_876 (by decide) ?_
  refine V_iaddN hX dL_law_877 ?_
  refine V_sld (j := i_ + 1) hX hs (by omega) (by omega) dL_law_878 ?_
  refine V_callV (As := [.int (xs (i_ + 1))]) (st := [.int ((imageS P κ I (xs (i_ + 1))).1)]) hX mL_122 rfl (kM_image hM1 (fun μ2 hM2 hk2 => ?_)) rfl (Nat.le_of_ble_eq_true rfl) (Nat.le_of_ble_eq_true rfl) dL_law_879
  show V G 4 X 882 [(0, .ref 2000), (1, .ref 0), (2, .ref 69), (3, .int (nI i_))] [.int ((imageS P κ I (xs (i_ + 1))).1), .int ((imageS P κ I (xs (i_ + 1))).1)] μ2
  have hC2 := hC1.kC hk2
  refine V_icmp_eq (tgt := 933) hX dL_law_882 (by decide) (fun c882 => ?_) (fun c882 => ?_)
  · exact hN P L S (imageS P κ I (xs (i_ + 1))).2.1 (imageS P κ I (xs (i_ + 1))).2.2 μ2 (ok_image hok) hC2 hM2
  · exact absurd rfl c882
set_option maxRecDepth 100000 in
set_option maxHeartbeats 4000000 in
theorem law_26 {G : VG} {d : Nat} {X : VX} {μ : VS} {P : PC} {L : Nat} {S κ : Nat → Nat} {I : Nat → PC} {i_ L_ : Nat} {xs : Nat → Int32} (hX : Cx G (d + 20) x code 4 ret X) (hs : scr G X L_ xs) (hi : i_ + 7 ≤ L_) (hL : L_ ≤ 3584) (hok : okS P L S κ I) (hC : RC μ P L S κ I) (hM : RM μ P L S κ I) (hN : ∀ (P : PC) (L : Nat) (S κ : Nat → Nat) (I : Nat → PC) (μ : VS), okS P L S κ I → RC μ P L S κ I → RM μ P L S κ I → V G 4 X 933 [(0, .ref 2000), (1, .ref 0), (2, .ref 69), (3, .int (nI i_))] [] μ) : V G 4 X 887 [(0, .ref 2000), (1, .ref 0), (2, .ref 69), (3, .int (nI i_))] [] μ := by
  refine V_aload_n hX dL_law_887 1 rfl ?_
  refine V_aload_n hX dL_law_888 0 rfl ?_
  refine V_iload_n hX dL_law_889 3 rfl ?_
  refine V_iconst (v := nI 1) hX dL_law_890 (by decide) ?_
  refine V_iaddN hX dL_law_891 ?_
  refine V_sld (j := i_ + 1) hX hs (by omega) (by omega) dL_law_892 ?_
  refine V_callV (As := [.int (xs (i_ + 1))]) (st := []) hX mL_123 rfl (kC_restore hC (fun n hn => (hok.2.2 n hn).1) (fun μ1 hC1 hk1 => ?_)) rfl (Nat.le_of_ble_eq_true rfl) (Nat.le_of_ble_eq_true rfl) dL_law_893
  show V G 4 X 896 [(0, .ref 2000), (1, .ref 0), (2, .ref 69), (3, .int (nI i_))] [.int ((restoreS P κ I (xs (i_ + 1))).1)] μ1
  have hM1 := hM.kM hk1
  refine V_aload_n hX dL_law_896 2 rfl ?_
  refine V_aload_n hX dL_law_897 0 rfl ?_
  refine V_iload_n hX dL_law_898 3 rfl ?_
  refine V_iconst (v := nI 1) hX dL_law_899 (by decide) ?_
  refine V_iaddN hX dL_law_900 ?_
  refine V_sld (j := i_ + 1) hX hs (by omega) (by omega) dL_law_901 ?_
  refine V_callV (As := [.int (xs (i_ + 1))]) (st := [.int ((restoreS P κ I (xs (i_ + 1))).1)]) hX mL_126 rfl (kM_restore hM1 (fun n hn => (hok.2.2 n hn).1) (fun μ2 hM2 hk2 => ?_)) rfl (Nat.le_of_ble_eq_true rfl) (Nat.le_of_ble_eq_true rfl) dL_law_902
  show V G 4 X 905 [(0, .ref 2000), (1, .ref 0), (2, .ref 69), (3, .int (nI i_))] [.int ((restoreS P κ I (xs (i_ + 1))).1), .int ((restoreS P κ I (xs (i_ + 1))).1)] μ2
  have hC2 := hC1.kC hk2
  refine V_icmp_eq (tgt := 933) hX dL_law_905 (by decide) (fun c905 => ?_) (fun c905 => ?_)
  · exact hN (restoreS P κ I (xs (i_ + 1))).2 L S κ I μ2 ⟨ok_restore hok, hok.2.1, hok.2.2⟩ hC2 hM2
  · exact absurd rfl c905
set_option maxRecDepth 100000 in
set_option maxHeartbeats 4000000 in
theorem law_27 {G : VG} {d : Nat} {X : VX} {μ : VS} {P : PC} {L : Nat} {S κ : Nat → Nat} {I : Nat → PC} {i_ L_ : Nat} {xs : Nat → Int32} (hX : Cx G (d + 20) x code 4 ret X) (hs : scr G X L_ xs) (hi : i_ + 7 ≤ L_) (hL : L_ ≤ 3584) (hok : okS P L S κ I) (hC : RC μ P L S κ I) (hM : RM μ P L S κ I) (hN : ∀ (P : PC) (L : Nat) (S κ : Nat → Nat) (I : Nat → PC) (μ : VS), okS P L S κ I → RC μ P L S κ I → RM μ P L S κ I → V G 4 X 933 [(0, .ref 2000), (1, .ref 0), (2, .ref 69), (3, .int (nI i_))] [] μ) : V G 4 X 910 [(0, .ref 2000), (1, .ref 0), (2, .ref 69), (3, .int (nI i_))] [] μ := by
  refine V_aload_n hX dL_law_910 1 rfl ?_
  refine V_aload_n hX dL_law_911 0 rfl ?_
  refine V_iload_n hX dL_law_912 3 rfl ?_
  refine V_iconst (v := nI 1) hX dL_law_913 (by decide) ?_
  refine V_iaddN hX dL_law_914 ?_
  refine V_sld (j := i_ + 1) hX hs (by omega) (by omega) dL_law_915 ?_
  refine V_callV (As := [.int (xs (i_ + 1))]) (st := []) hX mL_127 rfl (kC_told hC hok.1.2.2.2.2.1 hok.1.2.2.2.2.2.1 ?_) rfl (Nat.le_of_ble_eq_true rfl) (Nat.le_of_ble_eq_true rfl) dL_law_916
  show V G 4 X 919 [(0, .ref 2000), (1, .ref 0), (2, .ref 69), (3, .int (nI i_))] [.int (toldS P L (xs (i_ + 1)))] μ
  refine V_aload_n hX dL_law_919 2 rfl ?_
  refine V_aload_n hX dL_law_920 0 rfl ?_
  refine V_iload_n hX dL_law_921 3 rfl ?_
  refine V_iconst (v := nI 1) hX dL_law_922 (by decide) ?_
  refine V_iaddN hX dL_law_923 ?_
  refine V_sld (j := i_ + 1) hX hs (by omega) (by omega) dL_law_924 ?_
  refine V_callV (As := [.int (xs (i_ + 1))]) (st := [.int (toldS P L (xs (i_ + 1)))]) hX mL_130 rfl (kM_told hM hok.1.2.2.2.2.1 hok.1.2.2.2.2.2.1 ?_) rfl (Nat.le_of_ble_eq_true rfl) (Nat.le_of_ble_eq_true rfl) dL_law_925
  show V G 4 X 928 [(0, .ref 2000), (1, .ref 0), (2, .ref 69), (3, .int (nI i_))] [.int (toldS P L (xs (i_ + 1))), .int (toldS P L (xs (i_ + 1)))] μ
  refine V_icmp_eq (tgt := 933) hX dL_law_928 (by decide) (fun c928 => ?_) (fun c928 => ?_)
  · exact hN _ _ _ _ _ _ hok hC hM
  · exact absurd rfl c928
set_option maxRecDepth 100000 in
set_option maxHeartbeats 4000000 in
theorem law_loop {G : VG} {d : Nat} {X : VX} {L_ : Nat} {xs : Nat → Int32} (hX : Cx G (d + 20) x code 4 ret X) (hs : scr G X L_ xs) (hL : L_ ≤ 3584) (hE : ∀ (ls : VL) (μ : VS), V G 4 X 940 ls [.int (nI 1)] μ) : ∀ (j i_ : Nat) (P : PC) (L : Nat) (S κ : Nat → Nat) (I : Nat → PC) (μ : VS), i_ ≤ L_ → L_ + 1 ≤ i_ + j → okS P L S κ I → RC μ P L S κ I → RM μ P L S κ I → V G 4 X 18 [(0, .ref 2000), (1, .ref 0), (2, .ref 69), (3, .int (nI i_))] [] μ := by
  intro j
  induction j with
  | zero =>
    intro i_ P L S κ I μ h1 h2
    exact absurd h2 (by omega)
  | succ j ih =>
    intro i_ P L S κ I μ h1 h2 hok hC hM
    refine V_iload_n hX dL_law_18 3 rfl ?_
    refine V_aload_n hX dL_law_19 0 rfl ?_
    refine V_slen hX hs dL_law_20 ?_
    refine V_bipush (v := nI 7) hX dL_law_21 (by decide) ?_
    refine V_isub hX dL_law_23 ?_
    refine V_icmp_gt (tgt := 939) hX dL_law_24 (by decide) (fun c24 => ?_) (fun c24 => ?_)
    · refine V_iconst (v := nI 1) hX dL_law_939 (by decide) ?_
      exact hE _ _
    · have hi7 : i_ + 7 ≤ L_ := by have := mt (law_cmp (by omega) (by omega)).mpr c24; omega
      have hN : ∀ (P : PC) (L : Nat) (S κ : Nat → Nat) (I : Nat → PC) (μ : VS), okS P L S κ I → RC μ P L S κ I → RM μ P L S κ I → V G 4 X 933 [(0, .ref 2000), (1, .ref 0), (2, .ref 69), (3, .int (nI i_))] [] μ := by
        intro P L S κ I μ hok hC hM
        refine V_iincN (n := 7) (ls' := [(0, .ref 2000), (1, .ref 0), (2, .ref 69), (3, .int (nI (i_ + 7)))]) hX dL_law_933 3 rfl (by decide) rfl ?_
        refine V_goto (tgt := 18) hX dL_law_936 (by decide) ?_
        exact ih (i_ + 7) P L S κ I μ (by omega) (by omega) hok hC hM
      refine V_aload_n hX dL_law_27 0 rfl ?_
      refine V_iload_n hX dL_law_28 3 rfl ?_
      refine V_sld (j := i_) hX hs (by omega) (by omega) dL_law_29 ?_
      refine V_bipush (v := nI 31) hX dL_law_30 (by decide) ?_
      refine V_iand hX dL_law_32 ?_
      generalize ((xs i_) &&& (nI 31)) = w_
      by_cases e33_0 : w_ = nI 0
      · subst e33_0
        refine V_tableIn (x := nI 0) (off := 127) (tgt := 160) hX dL_law_33 (by decide) (by decide) (by decide) (by decide) ?_
        exact law_0 hX hs (by omega) hL hok hC hM hN
      by_cases e33_1 : w_ = nI 1
      · subst e33_1
        refine V_tableIn (x := nI 1) (off := 150) (tgt := 183) hX dL_law_33 (by decide) (by decide) (by decide) (by decide) ?_
        exact law_1 hX hs (by omega) hL hok hC hM hN
      by_cases e33_2 : w_ = nI 2
      · subst e33_2
        refine V_tableIn (x := nI 2) (off := 241) (tgt := 274) hX dL_law_33 (by decide) (by decide) (by decide) (by decide) ?_
        exact law_2 hX hs (by omega) hL hok hC hM hN
      by_cases e33_3 : w_ = nI 3
      · subst e33_3
        refine V_tableIn (x := nI 3) (off := 264) (tgt := 297) hX dL_law_33 (by decide) (by decide) (by decide) (by decide) ?_
        exact law_3 hX hs (by omega) hL hok hC hM hN
      by_cases e33_4 : w_ = nI 4
      · subst e33_4
        refine V_tableIn (x := nI 4) (off := 297) (tgt := 330) hX dL_law_33 (by decide) (by decide) (by decide) (by decide) ?_
        exact law_4 hX hs (by omega) hL hok hC hM hN
      by_cases e33_5 : w_ = nI 5
      · subst e33_5
        refine V_tableIn (x := nI 5) (off := 320) (tgt := 353) hX dL_law_33 (by decide) (by decide) (by decide) (by decide) ?_
        exact law_5 hX hs (by omega) hL hok hC hM hN
      by_cases e33_6 : w_ = nI 6
      · subst e33_6
        refine V_tableIn (x := nI 6) (off := 333) (tgt := 366) hX dL_law_33 (by decide) (by decide) (by decide) (by decide) ?_
        exact law_6 hX hs (by omega) hL hok hC hM hN
      by_cases e33_7 : w_ = nI 7
      · subst e33_7
        refine V_tableIn (x := nI 7) (off := 346) (tgt := 379) hX dL_law_33 (by decide) (by decide) (by decide) (by decide) ?_
        exact law_7 hX hs (by omega) hL hok hC hM hN
      by_cases e33_8 : w_ = nI 8
      · subst e33_8
        refine V_tableIn (x := nI 8) (off := 389) (tgt := 422) hX dL_law_33 (by decide) (by decide) (by decide) (by decide) ?_
        exact law_8 hX hs (by omega) hL hok hC hM hN
      by_cases e33_9 : w_ = nI 9
      · subst e33_9
        refine V_tableIn (x := nI 9) (off := 422) (tgt := 455) hX dL_law_33 (by decide) (by decide) (by decide) (by decide) ?_
        exact law_9 hX hs (by omega) hL hok hC hM hN
      by_cases e33_10 : w_ = nI 10
      · subst e33_10
        refine V_tableIn (x := nI 10) (off := 445) (tgt := 478) hX dL_law_33 (by decide) (by decide) (by decide) (by decide) ?_
        exact law_10 hX hs (by omega) hL hok hC hM hN
      by_cases e33_11 : w_ = nI 11
      · subst e33_11
        refine V_tableIn (x := nI 11) (off := 458) (tgt := 491) hX dL_law_33 (by decide) (by decide) (by decide) (by decide) ?_
        exact law_11 hX hs (by omega) hL hok hC hM hN
      by_cases e33_12 : w_ = nI 12
      · subst e33_12
        refine V_tableIn (x := nI 12) (off := 491) (tgt := 524) hX dL_law_33 (by decide) (by decide) (by decide) (by decide) ?_
        exact law_12 hX hs (by omega) hL hok hC hM hN
      by_cases e33_13 : w_ = nI 13
      · subst e33_13
        refine V_tableIn (x := nI 13) (off := 514) (tgt := 547) hX dL_law_33 (by decide) (by decide) (by decide) (by decide) ?_
        exact law_13 hX hs (by omega) hL hok hC hM hN
      by_cases e33_14 : w_ = nI 14
      · subst e33_14
        refine V_tableIn (x := nI 14) (off := 537) (tgt := 570) hX dL_law_33 (by decide) (by decide) (by decide) (by decide) ?_
        exact law_14 hX hs (by omega) hL hok hC hM hN
      by_cases e33_15 : w_ = nI 15
      · subst e33_15
        refine V_tableIn (x := nI 15) (off := 570) (tgt := 603) hX dL_law_33 (by decide) (by decide) (by decide) (by decide) ?_
        exact law_15 hX hs (by omega) hL hok hC hM hN
      by_cases e33_16 : w_ = nI 16
      · subst e33_16
        refine V_tableIn (x := nI 16) (off := 583) (tgt := 616) hX dL_law_33 (by decide) (by decide) (by decide) (by decide) ?_
        exact law_16 hX hs (by omega) hL hok hC hM hN
      by_cases e33_17 : w_ = nI 17
      · subst e33_17
        refine V_tableIn (x := nI 17) (off := 616) (tgt := 649) hX dL_law_33 (by decide) (by decide) (by decide) (by decide) ?_
        exact law_17 hX hs (by omega) hL hok hC hM hN
      by_cases e33_18 : w_ = nI 18
      · subst e33_18
        refine V_tableIn (x := nI 18) (off := 629) (tgt := 662) hX dL_law_33 (by decide) (by decide) (by decide) (by decide) ?_
        exact law_18 hX hs (by omega) hL hok hC hM hN
      by_cases e33_19 : w_ = nI 19
      · subst e33_19
        refine V_tableIn (x := nI 19) (off := 652) (tgt := 685) hX dL_law_33 (by decide) (by decide) (by decide) (by decide) ?_
        exact law_19 hX hs (by omega) hL hok hC hM hN
      by_cases e33_20 : w_ = nI 20
      · subst e33_20
        refine V_tableIn (x := nI 20) (off := 665) (tgt := 698) hX dL_law_33 (by decide) (by decide) (by decide) (by decide) ?_
        exact law_20 hX hs (by omega) hL hok hC hM hN
      by_cases e33_21 : w_ = nI 21
      · subst e33_21
        refine V_tableIn (x := nI 21) (off := 698) (tgt := 731) hX dL_law_33 (by decide) (by decide) (by decide) (by decide) ?_
        exact law_21 hX hs (by omega) hL hok hC hM hN
      by_cases e33_22 : w_ = nI 22
      · subst e33_22
        refine V_tableIn (x := nI 22) (off := 721) (tgt := 754) hX dL_law_33 (by decide) (by decide) (by decide) (by decide) ?_
        exact law_22 hX hs (by omega) hL hok hC hM hN
      by_cases e33_23 : w_ = nI 23
      · subst e33_23
        refine V_tableIn (x := nI 23) (off := 744) (tgt := 777) hX dL_law_33 (by decide) (by decide) (by decide) (by decide) ?_
        exact law_23 hX hs (by omega) hL hok hC hM hN
      by_cases e33_24 : w_ = nI 24
      · subst e33_24
        refine V_tableIn (x := nI 24) (off := 788) (tgt := 821) hX dL_law_33 (by decide) (by decide) (by decide) (by decide) ?_
        exact law_24 hX hs (by omega) hL hok hC hM hN
      by_cases e33_25 : w_ = nI 25
      · subst e33_25
        refine V_tableIn (x := nI 25) (off := 831) (tgt := 864) hX dL_law_33 (by decide) (by decide) (by decide) (by decide) ?_
        exact law_25 hX hs (by omega) hL hok hC hM hN
      by_cases e33_26 : w_ = nI 26
      · subst e33_26
        refine V_tableIn (x := nI 26) (off := 854) (tgt := 887) hX dL_law_33 (by decide) (by decide) (by decide) (by decide) ?_
        exact law_26 hX hs (by omega) hL hok hC hM hN
      by_cases e33_27 : w_ = nI 27
      · subst e33_27
        refine V_tableIn (x := nI 27) (off := 877) (tgt := 910) hX dL_law_33 (by decide) (by decide) (by decide) (by decide) ?_
        exact law_27 hX hs (by omega) hL hok hC hM hN
      refine V_tableOut (tgt := 933) hX dL_law_33 (tbl_out 27 (by decide) (by intro k hk; match k, hk with | 0, _ => exact e33_0 | 1, _ => exact e33_1 | 2, _ => exact e33_2 | 3, _ => exact e33_3 | 4, _ => exact e33_4 | 5, _ => exact e33_5 | 6, _ => exact e33_6 | 7, _ => exact e33_7 | 8, _ => exact e33_8 | 9, _ => exact e33_9 | 10, _ => exact e33_10 | 11, _ => exact e33_11 | 12, _ => exact e33_12 | 13, _ => exact e33_13 | 14, _ => exact e33_14 | 15, _ => exact e33_15 | 16, _ => exact e33_16 | 17, _ => exact e33_17 | 18, _ => exact e33_18 | 19, _ => exact e33_19 | 20, _ => exact e33_20 | 21, _ => exact e33_21 | 22, _ => exact e33_22 | 23, _ => exact e33_23 | 24, _ => exact e33_24 | 25, _ => exact e33_25 | 26, _ => exact e33_26 | 27, _ => exact e33_27 | k + 28, hk => exact absurd hk (by omega))) (by decide) ?_
      exact hN _ _ _ _ _ _ hok hC hM
