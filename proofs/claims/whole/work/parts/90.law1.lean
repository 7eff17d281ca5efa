/-! ===== the law's loop: a case a call ===== -/
/-- the script, as the law's frame reads it -/
def SCR (X : CX) (g : GX) (b N : Nat) (zs : Nat → Int32) : Prop := va_X b N zs (xs X) (xs X).heap ∧ b < (xs X).heap.size ∧ ¬ gA g b
section LAW
variable {X : CX} {g : GX} {own : String} {nL : Nat} {cc : ByteArray} {pc pc' : Nat} {L L' : List (Nat × AV)} {st : List AV} {mu : Mu}
theorem o_scr {b N j : Nat} {zs : Nat → Int32} {i : Int32} (hX : SCR X g b N zs) (hd : decode cc pc = .ok (.iaload, 1)) (hn : pc + 1 = pc') (hi : i = nI j) (hj : j < N) (hN : N ≤ 3072) (kk : WA X g own nL cc pc' L (vI (zs j) :: st) mu) : WA X g own nL cc pc L (vI i :: vR b :: st) mu := by
  subst hn
  subst hi
  intro F H locs ls hP hS hl
  obtain ⟨hx, hb, hml, hown, hts, hnw, hK, hDD, hA, hSF⟩ := id F
  refine va_sld hx hb hX.1 hX.2.1 hX.2.2 hS (vp_in_nI hj (by omega)) hd ?_
  rw [nI_clamp (by omega)]
  exact kk F H locs ls hP hS hl
theorem o_scl {b N : Nat} {zs : Nat → Int32} (hX : SCR X g b N zs) (hd : decode cc pc = .ok (.arraylength, 1)) (hn : pc + 1 = pc') (kk : WA X g own nL cc pc' L (vI (nI N) :: st) mu) : WA X g own nL cc pc L (vR b :: st) mu := by
  subst hn
  intro F H locs ls hP hS hl
  obtain ⟨hx, hb, hml, hown, hts, hnw, hK, hDD, hA, hSF⟩ := id F
  exact va_slen hx hb hX.1 hX.2.1 hX.2.2 hS hd (kk F H locs ls hP hS hl)
end LAW
theorem sw32 (x : Int32) : (∃ j, j < 32 ∧ x = nI j) ∨ (x.toInt < 0 ∨ 31 < x.toInt) := by
  rcases Int.lt_or_le x.toInt 0 with h | h
  · exact Or.inr (Or.inl h)
  · rcases Int.lt_or_le 31 x.toInt with h2 | h2
    · exact Or.inr (Or.inr h2)
    · exact Or.inl ⟨x.toInt.toNat, by omega, by rw [i_eq, nI_toInt (by omega)]; omega⟩
set_option maxHeartbeats 4000000 in
set_option maxRecDepth 100000 in
theorem law_set {X : CX} {g : GX} {b N k : Nat} {zs : Nat → Int32} {mu : Mu} (hr : RM X 9) (hX : SCR X g b N zs) (hk : 6 * k + 6 ≤ N) (hN : N ≤ 3072) (h : Rel mu) (J : ∀ m : Mu, Rel m → WA X g RL 4 cL_law 1268 [(0, vR b), (1, vC 0), (2, vC 94), (3, vI (nI (6 * k)))] [] m) : WA X g RL 4 cL_law 176 [(0, vR b), (1, vC 0), (2, vC 94), (3, vI (nI (6 * k)))] [] mu := by
  refine o_aload_n dL_law_176 rfl rfl (by rfl) ?_
  refine o_aload_nR dL_law_177 rfl rfl (by rfl) ?_
  refine o_iload_n dL_law_178 rfl rfl (by rfl) ?_
  refine o_iconst (v := 1) dL_law_179 rfl (by decide) ?_
  refine o_iadd dL_law_180 rfl ?_
  refine o_scr (j := 6 * k + 1) hX dL_law_181 rfl (nI_add (6 * k) 1) (by omega) hN ?_
  refine o_aload_nR dL_law_182 rfl rfl (by rfl) ?_
  refine o_iload_n dL_law_183 rfl rfl (by rfl) ?_
  refine o_iconst (v := 2) dL_law_184 rfl (by decide) ?_
  refine o_iadd dL_law_185 rfl ?_
  refine o_scr (j := 6 * k + 2) hX dL_law_186 rfl (nI_add (6 * k) 2) (by omega) hN ?_
  refine o_callV cs_X8_set cv_L_13 (q_set _ h _ _) hr (Nat.le_of_ble_eq_true rfl) dL_law_187 rfl (by decide) (by rfl) (by rfl) (by rfl) rfl rfl (Nat.le_of_ble_eq_true rfl) (fun rA mA hC => ?_)
  refine o_aload_n dL_law_190 rfl rfl (by rfl) ?_
  refine o_aload_nR dL_law_191 rfl rfl (by rfl) ?_
  refine o_iload_n dL_law_192 rfl rfl (by rfl) ?_
  refine o_iconst (v := 1) dL_law_193 rfl (by decide) ?_
  refine o_iadd dL_law_194 rfl ?_
  refine o_scr (j := 6 * k + 1) hX dL_law_195 rfl (nI_add (6 * k) 1) (by omega) hN ?_
  refine o_aload_nR dL_law_196 rfl rfl (by rfl) ?_
  refine o_iload_n dL_law_197 rfl rfl (by rfl) ?_
  refine o_iconst (v := 2) dL_law_198 rfl (by decide) ?_
  refine o_iadd dL_law_199 rfl ?_
  refine o_scr (j := 6 * k + 2) hX dL_law_200 rfl (nI_add (6 * k) 2) (by omega) hN ?_
  refine o_callV cs_X9_set cv_L_17 (hC) hr (Nat.le_of_ble_eq_true rfl) dL_law_201 rfl (by decide) (by rfl) (by rfl) (by rfl) rfl rfl (Nat.le_of_ble_eq_true rfl) (fun rB mB hR => ?_)
  refine o_icmp_eq (tgt := 1268) dL_law_204 (by decide) rfl (fun (c204 : rA = rB) => ?_) (fun (c204 : ¬ rA = rB) => ?_)
  · skip
    exact J _ hR.2
  · skip
    exact absurd hR.1.symm c204
set_option maxHeartbeats 4000000 in
set_option maxRecDepth 100000 in
theorem law_cup {X : CX} {g : GX} {b N k : Nat} {zs : Nat → Int32} {mu : Mu} (hr : RM X 9) (hX : SCR X g b N zs) (hk : 6 * k + 6 ≤ N) (hN : N ≤ 3072) (h : Rel mu) (J : ∀ m : Mu, Rel m → WA X g RL 4 cL_law 1268 [(0, vR b), (1, vC 0), (2, vC 94), (3, vI (nI (6 * k)))] [] m) : WA X g RL 4 cL_law 209 [(0, vR b), (1, vC 0), (2, vC 94), (3, vI (nI (6 * k)))] [] mu := by
  refine o_aload_n dL_law_209 rfl rfl (by rfl) ?_
  refine o_aload_nR dL_law_210 rfl rfl (by rfl) ?_
  refine o_iload_n dL_law_211 rfl rfl (by rfl) ?_
  refine o_iconst (v := 1) dL_law_212 rfl (by decide) ?_
  refine o_iadd dL_law_213 rfl ?_
  refine o_scr (j := 6 * k + 1) hX dL_law_214 rfl (nI_add (6 * k) 1) (by omega) hN ?_
  refine o_aload_nR dL_law_215 rfl rfl (by rfl) ?_
  refine o_iload_n dL_law_216 rfl rfl (by rfl) ?_
  refine o_iconst (v := 2) dL_law_217 rfl (by decide) ?_
  refine o_iadd dL_law_218 rfl ?_
  refine o_scr (j := 6 * k + 2) hX dL_law_219 rfl (nI_add (6 * k) 2) (by omega) hN ?_
  refine o_aload_nR dL_law_220 rfl rfl (by rfl) ?_
  refine o_iload_n dL_law_221 rfl rfl (by rfl) ?_
  refine o_iconst (v := 3) dL_law_222 rfl (by decide) ?_
  refine o_iadd dL_law_223 rfl ?_
  refine o_scr (j := 6 * k + 3) hX dL_law_224 rfl (nI_add (6 * k) 3) (by omega) hN ?_
  refine o_aload_nR dL_law_225 rfl rfl (by rfl) ?_
  refine o_iload_n dL_law_226 rfl rfl (by rfl) ?_
  refine o_iconst (v := 4) dL_law_227 rfl (by decide) ?_
  refine o_iadd dL_law_228 rfl ?_
  refine o_scr (j := 6 * k + 4) hX dL_law_229 rfl (nI_add (6 * k) 4) (by omega) hN ?_
  refine o_aload_nR dL_law_230 rfl rfl (by rfl) ?_
  refine o_iload_n dL_law_231 rfl rfl (by rfl) ?_
  refine o_iconst (v := 5) dL_law_232 rfl (by decide) ?_
  refine o_iadd dL_law_233 rfl ?_
  refine o_scr (j := 6 * k + 5) hX dL_law_234 rfl (nI_add (6 * k) 5) (by omega) hN ?_
  refine o_if_eq (tgt := 242) dL_law_235 (by decide) rfl (fun (c235 : (zs (6 * k + 5)) = 0) => ?_) (fun (c235 : ¬ (zs (6 * k + 5)) = 0) => ?_)
  · skip
    refine o_iconst (v := 0) dL_law_242 rfl (by decide) ?_
    refine o_callV cs_X8_cup cv_L_18 (q_cup _ h _ _ _ _ _) hr (Nat.le_of_ble_eq_true rfl) dL_law_243 rfl (by decide) (by rfl) (by rfl) (by rfl) rfl rfl (Nat.le_of_ble_eq_true rfl) (fun rA mA hC => ?_)
    refine o_aload_n dL_law_246 rfl rfl (by rfl) ?_
    refine o_aload_nR dL_law_247 rfl rfl (by rfl) ?_
    refine o_iload_n dL_law_248 rfl rfl (by rfl) ?_
    refine o_iconst (v := 1) dL_law_249 rfl (by decide) ?_
    refine o_iadd dL_law_250 rfl ?_
    refine o_scr (j := 6 * k + 1) hX dL_law_251 rfl (nI_add (6 * k) 1) (by omega) hN ?_
    refine o_aload_nR dL_law_252 rfl rfl (by rfl) ?_
    refine o_iload_n dL_law_253 rfl rfl (by rfl) ?_
    refine o_iconst (v := 2) dL_law_254 rfl (by decide) ?_
    refine o_iadd dL_law_255 rfl ?_
    refine o_scr (j := 6 * k + 2) hX dL_law_256 rfl (nI_add (6 * k) 2) (by omega) hN ?_
    refine o_aload_nR dL_law_257 rfl rfl (by rfl) ?_
    refine o_iload_n dL_law_258 rfl rfl (by rfl) ?_
    refine o_iconst (v := 3) dL_law_259 rfl (by decide) ?_
    refine o_iadd dL_law_260 rfl ?_
    refine o_scr (j := 6 * k + 3) hX dL_law_261 rfl (nI_add (6 * k) 3) (by omega) hN ?_
    refine o_aload_nR dL_law_262 rfl rfl (by rfl) ?_
    refine o_iload_n dL_law_263 rfl rfl (by rfl) ?_
    refine o_iconst (v := 4) dL_law_264 rfl (by decide) ?_
    refine o_iadd dL_law_265 rfl ?_
    refine o_scr (j := 6 * k + 4) hX dL_law_266 rfl (nI_add (6 * k) 4) (by omega) hN ?_
    refine o_aload_nR dL_law_267 rfl rfl (by rfl) ?_
    refine o_iload_n dL_law_268 rfl rfl (by rfl) ?_
    refine o_iconst (v := 5) dL_law_269 rfl (by decide) ?_
    refine o_iadd dL_law_270 rfl ?_
    refine o_scr (j := 6 * k + 5) hX dL_law_271 rfl (nI_add (6 * k) 5) (by omega) hN ?_
    refine o_if_eq (tgt := 279) dL_law_272 (by decide) rfl (fun (c272 : (zs (6 * k + 5)) = 0) => ?_) (fun (c272 : ¬ (zs (6 * k + 5)) = 0) => ?_)
    · skip
      refine o_iconst (v := 0) dL_law_279 rfl (by decide) ?_
      refine o_callV cs_X9_cup cv_L_22 (hC) hr (Nat.le_of_ble_eq_true rfl) dL_law_280 rfl (by decide) (by rfl) (by rfl) (by rfl) rfl rfl (Nat.le_of_ble_eq_true rfl) (fun rB mB hR => ?_)
      refine o_icmp_eq (tgt := 1268) dL_law_283 (by decide) rfl (fun (c283 : rA = rB) => ?_) (fun (c283 : ¬ rA = rB) => ?_)
      · skip
        exact J _ hR.2
      · skip
        exact absurd hR.1.symm c283
    · skip
      exact absurd c235 c272
  · skip
    refine o_iconst (v := 1) dL_law_238 rfl (by decide) ?_
    refine o_goto (tgt := 243) dL_law_239 (by decide) ?_
    refine o_callV cs_X8_cup cv_L_18 (q_cup _ h _ _ _ _ _) hr (Nat.le_of_ble_eq_true rfl) dL_law_243 rfl (by decide) (by rfl) (by rfl) (by rfl) rfl rfl (Nat.le_of_ble_eq_true rfl) (fun rA mA hC => ?_)
    refine o_aload_n dL_law_246 rfl rfl (by rfl) ?_
    refine o_aload_nR dL_law_247 rfl rfl (by rfl) ?_
    refine o_iload_n dL_law_248 rfl rfl (by rfl) ?_
    refine o_iconst (v := 1) dL_law_249 rfl (by decide) ?_
    refine o_iadd dL_law_250 rfl ?_
    refine o_scr (j := 6 * k + 1) hX dL_law_251 rfl (nI_add (6 * k) 1) (by omega) hN ?_
    refine o_aload_nR dL_law_252 rfl rfl (by rfl) ?_
    refine o_iload_n dL_law_253 rfl rfl (by rfl) ?_
    refine o_iconst (v := 2) dL_law_254 rfl (by decide) ?_
    refine o_iadd dL_law_255 rfl ?_
    refine o_scr (j := 6 * k + 2) hX dL_law_256 rfl (nI_add (6 * k) 2) (by omega) hN ?_
    refine o_aload_nR dL_law_257 rfl rfl (by rfl) ?_
    refine o_iload_n dL_law_258 rfl rfl (by rfl) ?_
    refine o_iconst (v := 3) dL_law_259 rfl (by decide) ?_
    refine o_iadd dL_law_260 rfl ?_
    refine o_scr (j := 6 * k + 3) hX dL_law_261 rfl (nI_add (6 * k) 3) (by omega) hN ?_
    refine o_aload_nR dL_law_262 rfl rfl (by rfl) ?_
    refine o_iload_n dL_law_263 rfl rfl (by rfl) ?_
    refine o_iconst (v := 4) dL_law_264 rfl (by decide) ?_
    refine o_iadd dL_law_265 rfl ?_
    refine o_scr (j := 6 * k + 4) hX dL_law_266 rfl (nI_add (6 * k) 4) (by omega) hN ?_
    refine o_aload_nR dL_law_267 rfl rfl (by rfl) ?_
    refine o_iload_n dL_law_268 rfl rfl (by rfl) ?_
    refine o_iconst (v := 5) dL_law_269 rfl (by decide) ?_
    refine o_iadd dL_law_270 rfl ?_
    refine o_scr (j := 6 * k + 5) hX dL_law_271 rfl (nI_add (6 * k) 5) (by omega) hN ?_
    refine o_if_eq (tgt := 279) dL_law_272 (by decide) rfl (fun (c272 : (zs (6 * k + 5)) = 0) => ?_) (fun (c272 : ¬ (zs (6 * k + 5)) = 0) => ?_)
    · skip
      exact absurd c272 c235
    · skip
      refine o_iconst (v := 1) dL_law_275 rfl (by decide) ?_
      refine o_goto (tgt := 280) dL_law_276 (by decide) ?_
      refine o_callV cs_X9_cup cv_L_22 (hC) hr (Nat.le_of_ble_eq_true rfl) dL_law_280 rfl (by decide) (by rfl) (by rfl) (by rfl) rfl rfl (Nat.le_of_ble_eq_true rfl) (fun rB mB hR => ?_)
      refine o_icmp_eq (tgt := 1268) dL_law_283 (by decide) rfl (fun (c283 : rA = rB) => ?_) (fun (c283 : ¬ rA = rB) => ?_)
      · skip
        exact J _ hR.2
      · skip
        exact absurd hR.1.symm c283
set_option maxHeartbeats 4000000 in
set_option maxRecDepth 100000 in
theorem law_told {X : CX} {g : GX} {b N k : Nat} {zs : Nat → Int32} {mu : Mu} (hr : RM X 9) (hX : SCR X g b N zs) (hk : 6 * k + 6 ≤ N) (hN : N ≤ 3072) (h : Rel mu) (J : ∀ m : Mu, Rel m → WA X g RL 4 cL_law 1268 [(0, vR b), (1, vC 0), (2, vC 94), (3, vI (nI (6 * k)))] [] m) : WA X g RL 4 cL_law 288 [(0, vR b), (1, vC 0), (2, vC 94), (3, vI (nI (6 * k)))] [] mu := by
  refine o_aload_n dL_law_288 rfl rfl (by rfl) ?_
  refine o_aload_nR dL_law_289 rfl rfl (by rfl) ?_
  refine o_iload_n dL_law_290 rfl rfl (by rfl) ?_
  refine o_iconst (v := 1) dL_law_291 rfl (by decide) ?_
  refine o_iadd dL_law_292 rfl ?_
  refine o_scr (j := 6 * k + 1) hX dL_law_293 rfl (nI_add (6 * k) 1) (by omega) hN ?_
  refine o_aload_nR dL_law_294 rfl rfl (by rfl) ?_
  refine o_iload_n dL_law_295 rfl rfl (by rfl) ?_
  refine o_iconst (v := 2) dL_law_296 rfl (by decide) ?_
  refine o_iadd dL_law_297 rfl ?_
  refine o_scr (j := 6 * k + 2) hX dL_law_298 rfl (nI_add (6 * k) 2) (by omega) hN ?_
  refine o_callV cs_X8_told cv_L_23 (q_told _ h _ _) hr (Nat.le_of_ble_eq_true rfl) dL_law_299 rfl (by decide) (by rfl) (by rfl) (by rfl) rfl rfl (Nat.le_of_ble_eq_true rfl) (fun rA mA hC => ?_)
  refine o_aload_n dL_law_302 rfl rfl (by rfl) ?_
  refine o_aload_nR dL_law_303 rfl rfl (by rfl) ?_
  refine o_iload_n dL_law_304 rfl rfl (by rfl) ?_
  refine o_iconst (v := 1) dL_law_305 rfl (by decide) ?_
  refine o_iadd dL_law_306 rfl ?_
  refine o_scr (j := 6 * k + 1) hX dL_law_307 rfl (nI_add (6 * k) 1) (by omega) hN ?_
  refine o_aload_nR dL_law_308 rfl rfl (by rfl) ?_
  refine o_iload_n dL_law_309 rfl rfl (by rfl) ?_
  refine o_iconst (v := 2) dL_law_310 rfl (by decide) ?_
  refine o_iadd dL_law_311 rfl ?_
  refine o_scr (j := 6 * k + 2) hX dL_law_312 rfl (nI_add (6 * k) 2) (by omega) hN ?_
  refine o_callV cs_X9_told cv_L_26 (hC) hr (Nat.le_of_ble_eq_true rfl) dL_law_313 rfl (by decide) (by rfl) (by rfl) (by rfl) rfl rfl (Nat.le_of_ble_eq_true rfl) (fun rB mB hR => ?_)
  refine o_icmp_eq (tgt := 1268) dL_law_316 (by decide) rfl (fun (c316 : rA = rB) => ?_) (fun (c316 : ¬ rA = rB) => ?_)
  · skip
    exact J _ hR.2
  · skip
    exact absurd hR.1.symm c316
set_option maxHeartbeats 4000000 in
set_option maxRecDepth 100000 in
theorem law_part {X : CX} {g : GX} {b N k : Nat} {zs : Nat → Int32} {mu : Mu} (hr : RM X 9) (hX : SCR X g b N zs) (hk : 6 * k + 6 ≤ N) (hN : N ≤ 3072) (h : Rel mu) (J : ∀ m : Mu, Rel m → WA X g RL 4 cL_law 1268 [(0, vR b), (1, vC 0), (2, vC 94), (3, vI (nI (6 * k)))] [] m) : WA X g RL 4 cL_law 321 [(0, vR b), (1, vC 0), (2, vC 94), (3, vI (nI (6 * k)))] [] mu := by
  refine o_aload_n dL_law_321 rfl rfl (by rfl) ?_
  refine o_aload_nR dL_law_322 rfl rfl (by rfl) ?_
  refine o_iload_n dL_law_323 rfl rfl (by rfl) ?_
  refine o_iconst (v := 1) dL_law_324 rfl (by decide) ?_
  refine o_iadd dL_law_325 rfl ?_
  refine o_scr (j := 6 * k + 1) hX dL_law_326 rfl (nI_add (6 * k) 1) (by omega) hN ?_
  refine o_aload_nR dL_law_327 rfl rfl (by rfl) ?_
  refine o_iload_n dL_law_328 rfl rfl (by rfl) ?_
  refine o_iconst (v := 2) dL_law_329 rfl (by decide) ?_
  refine o_iadd dL_law_330 rfl ?_
  refine o_scr (j := 6 * k + 2) hX dL_law_331 rfl (nI_add (6 * k) 2) (by omega) hN ?_
  refine o_aload_nR dL_law_332 rfl rfl (by rfl) ?_
  refine o_iload_n dL_law_333 rfl rfl (by rfl) ?_
  refine o_iconst (v := 3) dL_law_334 rfl (by decide) ?_
  refine o_iadd dL_law_335 rfl ?_
  refine o_scr (j := 6 * k + 3) hX dL_law_336 rfl (nI_add (6 * k) 3) (by omega) hN ?_
  refine o_callV cs_X8_part cv_L_27 (q_part _ h _ _ _) hr (Nat.le_of_ble_eq_true rfl) dL_law_337 rfl (by decide) (by rfl) (by rfl) (by rfl) rfl rfl (Nat.le_of_ble_eq_true rfl) (fun rA mA hC => ?_)
  refine o_aload_n dL_law_340 rfl rfl (by rfl) ?_
  refine o_aload_nR dL_law_341 rfl rfl (by rfl) ?_
  refine o_iload_n dL_law_342 rfl rfl (by rfl) ?_
  refine o_iconst (v := 1) dL_law_343 rfl (by decide) ?_
  refine o_iadd dL_law_344 rfl ?_
  refine o_scr (j := 6 * k + 1) hX dL_law_345 rfl (nI_add (6 * k) 1) (by omega) hN ?_
  refine o_aload_nR dL_law_346 rfl rfl (by rfl) ?_
  refine o_iload_n dL_law_347 rfl rfl (by rfl) ?_
  refine o_iconst (v := 2) dL_law_348 rfl (by decide) ?_
  refine o_iadd dL_law_349 rfl ?_
  refine o_scr (j := 6 * k + 2) hX dL_law_350 rfl (nI_add (6 * k) 2) (by omega) hN ?_
  refine o_aload_nR dL_law_351 rfl rfl (by rfl) ?_
  refine o_iload_n dL_law_352 rfl rfl (by rfl) ?_
  refine o_iconst (v := 3) dL_law_353 rfl (by decide) ?_
  refine o_iadd dL_law_354 rfl ?_
  refine o_scr (j := 6 * k + 3) hX dL_law_355 rfl (nI_add (6 * k) 3) (by omega) hN ?_
  refine o_callV cs_X9_part cv_L_31 (hC) hr (Nat.le_of_ble_eq_true rfl) dL_law_356 rfl (by decide) (by rfl) (by rfl) (by rfl) rfl rfl (Nat.le_of_ble_eq_true rfl) (fun rB mB hR => ?_)
  refine o_icmp_eq (tgt := 1268) dL_law_359 (by decide) rfl (fun (c359 : rA = rB) => ?_) (fun (c359 : ¬ rA = rB) => ?_)
  · skip
    exact J _ hR.2
  · skip
    exact absurd hR.1.symm c359
set_option maxHeartbeats 4000000 in
set_option maxRecDepth 100000 in
theorem law_pull {X : CX} {g : GX} {b N k : Nat} {zs : Nat → Int32} {mu : Mu} (hr : RM X 9) (hX : SCR X g b N zs) (hk : 6 * k + 6 ≤ N) (hN : N ≤ 3072) (h : Rel mu) (J : ∀ m : Mu, Rel m → WA X g RL 4 cL_law 1268 [(0, vR b), (1, vC 0), (2, vC 94), (3, vI (nI (6 * k)))] [] m) : WA X g RL 4 cL_law 364 [(0, vR b), (1, vC 0), (2, vC 94), (3, vI (nI (6 * k)))] [] mu := by
  refine o_aload_n dL_law_364 rfl rfl (by rfl) ?_
  refine o_aload_nR dL_law_365 rfl rfl (by rfl) ?_
  refine o_iload_n dL_law_366 rfl rfl (by rfl) ?_
  refine o_iconst (v := 1) dL_law_367 rfl (by decide) ?_
  refine o_iadd dL_law_368 rfl ?_
  refine o_scr (j := 6 * k + 1) hX dL_law_369 rfl (nI_add (6 * k) 1) (by omega) hN ?_
  refine o_aload_nR dL_law_370 rfl rfl (by rfl) ?_
  refine o_iload_n dL_law_371 rfl rfl (by rfl) ?_
  refine o_iconst (v := 2) dL_law_372 rfl (by decide) ?_
  refine o_iadd dL_law_373 rfl ?_
  refine o_scr (j := 6 * k + 2) hX dL_law_374 rfl (nI_add (6 * k) 2) (by omega) hN ?_
  refine o_callV cs_X8_pull cv_L_32 (q_pull _ h _ _) hr (Nat.le_of_ble_eq_true rfl) dL_law_375 rfl (by decide) (by rfl) (by rfl) (by rfl) rfl rfl (Nat.le_of_ble_eq_true rfl) (fun rA mA hC => ?_)
  refine o_aload_n dL_law_378 rfl rfl (by rfl) ?_
  refine o_aload_nR dL_law_379 rfl rfl (by rfl) ?_
  refine o_iload_n dL_law_380 rfl rfl (by rfl) ?_
  refine o_iconst (v := 1) dL_law_381 rfl (by decide) ?_
  refine o_iadd dL_law_382 rfl ?_
  refine o_scr (j := 6 * k + 1) hX dL_law_383 rfl (nI_add (6 * k) 1) (by omega) hN ?_
  refine o_aload_nR dL_law_384 rfl rfl (by rfl) ?_
  refine o_iload_n dL_law_385 rfl rfl (by rfl) ?_
  refine o_iconst (v := 2) dL_law_386 rfl (by decide) ?_
  refine o_iadd dL_law_387 rfl ?_
  refine o_scr (j := 6 * k + 2) hX dL_law_388 rfl (nI_add (6 * k) 2) (by omega) hN ?_
  refine o_callV cs_X9_pull cv_L_35 (hC) hr (Nat.le_of_ble_eq_true rfl) dL_law_389 rfl (by decide) (by rfl) (by rfl) (by rfl) rfl rfl (Nat.le_of_ble_eq_true rfl) (fun rB mB hR => ?_)
  refine o_icmp_eq (tgt := 1268) dL_law_392 (by decide) rfl (fun (c392 : rA = rB) => ?_) (fun (c392 : ¬ rA = rB) => ?_)
  · skip
    exact J _ hR.2
  · skip
    exact absurd hR.1.symm c392
set_option maxHeartbeats 4000000 in
set_option maxRecDepth 100000 in
theorem law_still {X : CX} {g : GX} {b N k : Nat} {zs : Nat → Int32} {mu : Mu} (hr : RM X 9) (hX : SCR X g b N zs) (hk : 6 * k + 6 ≤ N) (hN : N ≤ 3072) (h : Rel mu) (J : ∀ m : Mu, Rel m → WA X g RL 4 cL_law 1268 [(0, vR b), (1, vC 0), (2, vC 94), (3, vI (nI (6 * k)))] [] m) : WA X g RL 4 cL_law 397 [(0, vR b), (1, vC 0), (2, vC 94), (3, vI (nI (6 * k)))] [] mu := by
  refine o_aload_n dL_law_397 rfl rfl (by rfl) ?_
  refine o_callV cs_X8_still cv_L_36 (q_still _ h ) hr (Nat.le_of_ble_eq_true rfl) dL_law_398 rfl (by decide) (by rfl) (by rfl) (by rfl) rfl rfl (Nat.le_of_ble_eq_true rfl) (fun rA mA hC => ?_)
  refine o_aload_n dL_law_401 rfl rfl (by rfl) ?_
  refine o_callV cs_X9_still cv_L_40 (hC) hr (Nat.le_of_ble_eq_true rfl) dL_law_402 rfl (by decide) (by rfl) (by rfl) (by rfl) rfl rfl (Nat.le_of_ble_eq_true rfl) (fun rB mB hR => ?_)
  refine o_icmp_eq (tgt := 1268) dL_law_405 (by decide) rfl (fun (c405 : rA = rB) => ?_) (fun (c405 : ¬ rA = rB) => ?_)
  · skip
    exact J _ hR.2
  · skip
    exact absurd hR.1.symm c405
set_option maxHeartbeats 4000000 in
set_option maxRecDepth 100000 in
theorem law_type {X : CX} {g : GX} {b N k : Nat} {zs : Nat → Int32} {mu : Mu} (hr : RM X 9) (hX : SCR X g b N zs) (hk : 6 * k + 6 ≤ N) (hN : N ≤ 3072) (h : Rel mu) (J : ∀ m : Mu, Rel m → WA X g RL 4 cL_law 1268 [(0, vR b), (1, vC 0), (2, vC 94), (3, vI (nI (6 * k)))] [] m) : WA X g RL 4 cL_law 410 [(0, vR b), (1, vC 0), (2, vC 94), (3, vI (nI (6 * k)))] [] mu := by
  refine o_aload_n dL_law_410 rfl rfl (by rfl) ?_
  refine o_aload_nR dL_law_411 rfl rfl (by rfl) ?_
  refine o_iload_n dL_law_412 rfl rfl (by rfl) ?_
  refine o_iconst (v := 1) dL_law_413 rfl (by decide) ?_
  refine o_iadd dL_law_414 rfl ?_
  refine o_scr (j := 6 * k + 1) hX dL_law_415 rfl (nI_add (6 * k) 1) (by omega) hN ?_
  refine o_i2l dL_law_416 rfl ?_
  refine o_bipush (v := 32) dL_law_417 rfl (by decide) ?_
  refine o_lshl dL_law_419 rfl ?_
  refine o_aload_nR dL_law_420 rfl rfl (by rfl) ?_
  refine o_iload_n dL_law_421 rfl rfl (by rfl) ?_
  refine o_iconst (v := 2) dL_law_422 rfl (by decide) ?_
  refine o_iadd dL_law_423 rfl ?_
  refine o_scr (j := 6 * k + 2) hX dL_law_424 rfl (nI_add (6 * k) 2) (by omega) hN ?_
  refine o_i2l dL_law_425 rfl ?_
  refine o_ldc2 dL_law_426 rfl kc_L_41 ?_
  refine o_land dL_law_429 rfl ?_
  refine o_lor dL_law_430 rfl ?_
  refine o_aload_nR dL_law_431 rfl rfl (by rfl) ?_
  refine o_iload_n dL_law_432 rfl rfl (by rfl) ?_
  refine o_iconst (v := 3) dL_law_433 rfl (by decide) ?_
  refine o_iadd dL_law_434 rfl ?_
  refine o_scr (j := 6 * k + 3) hX dL_law_435 rfl (nI_add (6 * k) 3) (by omega) hN ?_
  refine o_callV cs_X8_type cv_L_43 (q_type _ h _ _) hr (Nat.le_of_ble_eq_true rfl) dL_law_436 rfl (by decide) (by rfl) (by rfl) (by rfl) rfl rfl (Nat.le_of_ble_eq_true rfl) (fun rA mA hC => ?_)
  refine o_aload_n dL_law_439 rfl rfl (by rfl) ?_
  refine o_aload_nR dL_law_440 rfl rfl (by rfl) ?_
  refine o_iload_n dL_law_441 rfl rfl (by rfl) ?_
  refine o_iconst (v := 1) dL_law_442 rfl (by decide) ?_
  refine o_iadd dL_law_443 rfl ?_
  refine o_scr (j := 6 * k + 1) hX dL_law_444 rfl (nI_add (6 * k) 1) (by omega) hN ?_
  refine o_i2l dL_law_445 rfl ?_
  refine o_bipush (v := 32) dL_law_446 rfl (by decide) ?_
  refine o_lshl dL_law_448 rfl ?_
  refine o_aload_nR dL_law_449 rfl rfl (by rfl) ?_
  refine o_iload_n dL_law_450 rfl rfl (by rfl) ?_
  refine o_iconst (v := 2) dL_law_451 rfl (by decide) ?_
  refine o_iadd dL_law_452 rfl ?_
  refine o_scr (j := 6 * k + 2) hX dL_law_453 rfl (nI_add (6 * k) 2) (by omega) hN ?_
  refine o_i2l dL_law_454 rfl ?_
  refine o_ldc2 dL_law_455 rfl kc_L_41 ?_
  refine o_land dL_law_458 rfl ?_
  refine o_lor dL_law_459 rfl ?_
  refine o_aload_nR dL_law_460 rfl rfl (by rfl) ?_
  refine o_iload_n dL_law_461 rfl rfl (by rfl) ?_
  refine o_iconst (v := 3) dL_law_462 rfl (by decide) ?_
  refine o_iadd dL_law_463 rfl ?_
  refine o_scr (j := 6 * k + 3) hX dL_law_464 rfl (nI_add (6 * k) 3) (by omega) hN ?_
  refine o_callV cs_X9_type cv_L_47 (hC) hr (Nat.le_of_ble_eq_true rfl) dL_law_465 rfl (by decide) (by rfl) (by rfl) (by rfl) rfl rfl (Nat.le_of_ble_eq_true rfl) (fun rB mB hR => ?_)
  refine o_icmp_eq (tgt := 1268) dL_law_468 (by decide) rfl (fun (c468 : rA = rB) => ?_) (fun (c468 : ¬ rA = rB) => ?_)
  · skip
    exact J _ hR.2
  · skip
    exact absurd hR.1.symm c468
set_option maxHeartbeats 4000000 in
set_option maxRecDepth 100000 in
theorem law_toy {X : CX} {g : GX} {b N k : Nat} {zs : Nat → Int32} {mu : Mu} (hr : RM X 9) (hX : SCR X g b N zs) (hk : 6 * k + 6 ≤ N) (hN : N ≤ 3072) (h : Rel mu) (J : ∀ m : Mu, Rel m → WA X g RL 4 cL_law 1268 [(0, vR b), (1, vC 0), (2, vC 94), (3, vI (nI (6 * k)))] [] m) : WA X g RL 4 cL_law 473 [(0, vR b), (1, vC 0), (2, vC 94), (3, vI (nI (6 * k)))] [] mu := by
  refine o_aload_n dL_law_473 rfl rfl (by rfl) ?_
  refine o_callV cs_X8_toy cv_L_48 (q_toy _ h ) hr (Nat.le_of_ble_eq_true rfl) dL_law_474 rfl (by decide) (by rfl) (by rfl) (by rfl) rfl rfl (Nat.le_of_ble_eq_true rfl) (fun rA mA hC => ?_)
  refine o_aload_n dL_law_477 rfl rfl (by rfl) ?_
  refine o_callV cs_X9_toy cv_L_51 (hC) hr (Nat.le_of_ble_eq_true rfl) dL_law_478 rfl (by decide) (by rfl) (by rfl) (by rfl) rfl rfl (Nat.le_of_ble_eq_true rfl) (fun rB mB hR => ?_)
  refine o_icmp_eq (tgt := 1268) dL_law_481 (by decide) rfl (fun (c481 : rA = rB) => ?_) (fun (c481 : ¬ rA = rB) => ?_)
  · skip
    exact J _ hR.2
  · skip
    exact absurd hR.1.symm c481
set_option maxHeartbeats 4000000 in
set_option maxRecDepth 100000 in
theorem law_pulls {X : CX} {g : GX} {b N k : Nat} {zs : Nat → Int32} {mu : Mu} (hr : RM X 9) (hX : SCR X g b N zs) (hk : 6 * k + 6 ≤ N) (hN : N ≤ 3072) (h : Rel mu) (J : ∀ m : Mu, Rel m → WA X g RL 4 cL_law 1268 [(0, vR b), (1, vC 0), (2, vC 94), (3, vI (nI (6 * k)))] [] m) : WA X g RL 4 cL_law 486 [(0, vR b), (1, vC 0), (2, vC 94), (3, vI (nI (6 * k)))] [] mu := by
  refine o_aload_n dL_law_486 rfl rfl (by rfl) ?_
  refine o_callV cs_X8_pulls cv_L_52 (q_pulls _ h ) hr (Nat.le_of_ble_eq_true rfl) dL_law_487 rfl (by decide) (by rfl) (by rfl) (by rfl) rfl rfl (Nat.le_of_ble_eq_true rfl) (fun rA mA hC => ?_)
  refine o_aload_n dL_law_490 rfl rfl (by rfl) ?_
  refine o_callV cs_X9_pulls cv_L_55 (hC) hr (Nat.le_of_ble_eq_true rfl) dL_law_491 rfl (by decide) (by rfl) (by rfl) (by rfl) rfl rfl (Nat.le_of_ble_eq_true rfl) (fun rB mB hR => ?_)
  refine o_icmp_eq (tgt := 1268) dL_law_494 (by decide) rfl (fun (c494 : rA = rB) => ?_) (fun (c494 : ¬ rA = rB) => ?_)
  · skip
    exact J _ hR.2
  · skip
    exact absurd hR.1.symm c494
set_option maxHeartbeats 4000000 in
set_option maxRecDepth 100000 in
theorem law_at {X : CX} {g : GX} {b N k : Nat} {zs : Nat → Int32} {mu : Mu} (hr : RM X 9) (hX : SCR X g b N zs) (hk : 6 * k + 6 ≤ N) (hN : N ≤ 3072) (h : Rel mu) (J : ∀ m : Mu, Rel m → WA X g RL 4 cL_law 1268 [(0, vR b), (1, vC 0), (2, vC 94), (3, vI (nI (6 * k)))] [] m) : WA X g RL 4 cL_law 499 [(0, vR b), (1, vC 0), (2, vC 94), (3, vI (nI (6 * k)))] [] mu := by
  refine o_aload_n dL_law_499 rfl rfl (by rfl) ?_
  refine o_aload_nR dL_law_500 rfl rfl (by rfl) ?_
  refine o_iload_n dL_law_501 rfl rfl (by rfl) ?_
  refine o_iconst (v := 1) dL_law_502 rfl (by decide) ?_
  refine o_iadd dL_law_503 rfl ?_
  refine o_scr (j := 6 * k + 1) hX dL_law_504 rfl (nI_add (6 * k) 1) (by omega) hN ?_
  refine o_aload_nR dL_law_505 rfl rfl (by rfl) ?_
  refine o_iload_n dL_law_506 rfl rfl (by rfl) ?_
  refine o_iconst (v := 2) dL_law_507 rfl (by decide) ?_
  refine o_iadd dL_law_508 rfl ?_
  refine o_scr (j := 6 * k + 2) hX dL_law_509 rfl (nI_add (6 * k) 2) (by omega) hN ?_
  refine o_callV cs_X8_at cv_L_56 (q_at _ h _ _) hr (Nat.le_of_ble_eq_true rfl) dL_law_510 rfl (by decide) (by rfl) (by rfl) (by rfl) rfl rfl (Nat.le_of_ble_eq_true rfl) (fun rA mA hC => ?_)
  refine o_aload_n dL_law_513 rfl rfl (by rfl) ?_
  refine o_aload_nR dL_law_514 rfl rfl (by rfl) ?_
  refine o_iload_n dL_law_515 rfl rfl (by rfl) ?_
  refine o_iconst (v := 1) dL_law_516 rfl (by decide) ?_
  refine o_iadd dL_law_517 rfl ?_
  refine o_scr (j := 6 * k + 1) hX dL_law_518 rfl (nI_add (6 * k) 1) (by omega) hN ?_
  refine o_aload_nR dL_law_519 rfl rfl (by rfl) ?_
  refine o_iload_n dL_law_520 rfl rfl (by rfl) ?_
  refine o_iconst (v := 2) dL_law_521 rfl (by decide) ?_
  refine o_iadd dL_law_522 rfl ?_
  refine o_scr (j := 6 * k + 2) hX dL_law_523 rfl (nI_add (6 * k) 2) (by omega) hN ?_
  refine o_callV cs_X9_at cv_L_59 (hC) hr (Nat.le_of_ble_eq_true rfl) dL_law_524 rfl (by decide) (by rfl) (by rfl) (by rfl) rfl rfl (Nat.le_of_ble_eq_true rfl) (fun rB mB hR => ?_)
  refine o_icmp_eq (tgt := 1268) dL_law_527 (by decide) rfl (fun (c527 : rA = rB) => ?_) (fun (c527 : ¬ rA = rB) => ?_)
  · skip
    exact J _ hR.2
  · skip
    exact absurd hR.1.symm c527
set_option maxHeartbeats 4000000 in
set_option maxRecDepth 100000 in
theorem law_end {X : CX} {g : GX} {b N k : Nat} {zs : Nat → Int32} {mu : Mu} (hr : RM X 9) (hX : SCR X g b N zs) (hk : 6 * k + 6 ≤ N) (hN : N ≤ 3072) (h : Rel mu) (J : ∀ m : Mu, Rel m → WA X g RL 4 cL_law 1268 [(0, vR b), (1, vC 0), (2, vC 94), (3, vI (nI (6 * k)))] [] m) : WA X g RL 4 cL_law 532 [(0, vR b), (1, vC 0), (2, vC 94), (3, vI (nI (6 * k)))] [] mu := by
  refine o_aload_n dL_law_532 rfl rfl (by rfl) ?_
  refine o_aload_nR dL_law_533 rfl rfl (by rfl) ?_
  refine o_iload_n dL_law_534 rfl rfl (by rfl) ?_
  refine o_iconst (v := 1) dL_law_535 rfl (by decide) ?_
  refine o_iadd dL_law_536 rfl ?_
  refine o_scr (j := 6 * k + 1) hX dL_law_537 rfl (nI_add (6 * k) 1) (by omega) hN ?_
  refine o_callV cs_X8_end cv_L_60 (q_end _ h _) hr (Nat.le_of_ble_eq_true rfl) dL_law_538 rfl (by decide) (by rfl) (by rfl) (by rfl) rfl rfl (Nat.le_of_ble_eq_true rfl) (fun rA mA hC => ?_)
  refine o_aload_n dL_law_541 rfl rfl (by rfl) ?_
  refine o_aload_nR dL_law_542 rfl rfl (by rfl) ?_
  refine o_iload_n dL_law_543 rfl rfl (by rfl) ?_
  refine o_iconst (v := 1) dL_law_544 rfl (by decide) ?_
  refine o_iadd dL_law_545 rfl ?_
  refine o_scr (j := 6 * k + 1) hX dL_law_546 rfl (nI_add (6 * k) 1) (by omega) hN ?_
  refine o_callV cs_X9_end cv_L_64 (hC) hr (Nat.le_of_ble_eq_true rfl) dL_law_547 rfl (by decide) (by rfl) (by rfl) (by rfl) rfl rfl (Nat.le_of_ble_eq_true rfl) (fun rB mB hR => ?_)
  refine o_icmp_eq (tgt := 1268) dL_law_550 (by decide) rfl (fun (c550 : rA = rB) => ?_) (fun (c550 : ¬ rA = rB) => ?_)
  · skip
    exact J _ hR.2
  · skip
    exact absurd hR.1.symm c550
set_option maxHeartbeats 4000000 in
set_option maxRecDepth 100000 in
theorem law_count {X : CX} {g : GX} {b N k : Nat} {zs : Nat → Int32} {mu : Mu} (hr : RM X 9) (hX : SCR X g b N zs) (hk : 6 * k + 6 ≤ N) (hN : N ≤ 3072) (h : Rel mu) (J : ∀ m : Mu, Rel m → WA X g RL 4 cL_law 1268 [(0, vR b), (1, vC 0), (2, vC 94), (3, vI (nI (6 * k)))] [] m) : WA X g RL 4 cL_law 555 [(0, vR b), (1, vC 0), (2, vC 94), (3, vI (nI (6 * k)))] [] mu := by
  refine o_aload_n dL_law_555 rfl rfl (by rfl) ?_
  refine o_aload_nR dL_law_556 rfl rfl (by rfl) ?_
  refine o_iload_n dL_law_557 rfl rfl (by rfl) ?_
  refine o_iconst (v := 1) dL_law_558 rfl (by decide) ?_
  refine o_iadd dL_law_559 rfl ?_
  refine o_scr (j := 6 * k + 1) hX dL_law_560 rfl (nI_add (6 * k) 1) (by omega) hN ?_
  refine o_callV cs_X8_count cv_L_65 (q_count _ h _) hr (Nat.le_of_ble_eq_true rfl) dL_law_561 rfl (by decide) (by rfl) (by rfl) (by rfl) rfl rfl (Nat.le_of_ble_eq_true rfl) (fun rA mA hC => ?_)
  refine o_aload_n dL_law_564 rfl rfl (by rfl) ?_
  refine o_aload_nR dL_law_565 rfl rfl (by rfl) ?_
  refine o_iload_n dL_law_566 rfl rfl (by rfl) ?_
  refine o_iconst (v := 1) dL_law_567 rfl (by decide) ?_
  refine o_iadd dL_law_568 rfl ?_
  refine o_scr (j := 6 * k + 1) hX dL_law_569 rfl (nI_add (6 * k) 1) (by omega) hN ?_
  refine o_callV cs_X9_count cv_L_68 (hC) hr (Nat.le_of_ble_eq_true rfl) dL_law_570 rfl (by decide) (by rfl) (by rfl) (by rfl) rfl rfl (Nat.le_of_ble_eq_true rfl) (fun rB mB hR => ?_)
  refine o_icmp_eq (tgt := 1268) dL_law_573 (by decide) rfl (fun (c573 : rA = rB) => ?_) (fun (c573 : ¬ rA = rB) => ?_)
  · skip
    exact J _ hR.2
  · skip
    exact absurd hR.1.symm c573
set_option maxHeartbeats 4000000 in
set_option maxRecDepth 100000 in
theorem law_ends {X : CX} {g : GX} {b N k : Nat} {zs : Nat → Int32} {mu : Mu} (hr : RM X 9) (hX : SCR X g b N zs) (hk : 6 * k + 6 ≤ N) (hN : N ≤ 3072) (h : Rel mu) (J : ∀ m : Mu, Rel m → WA X g RL 4 cL_law 1268 [(0, vR b), (1, vC 0), (2, vC 94), (3, vI (nI (6 * k)))] [] m) : WA X g RL 4 cL_law 578 [(0, vR b), (1, vC 0), (2, vC 94), (3, vI (nI (6 * k)))] [] mu := by
  refine o_aload_n dL_law_578 rfl rfl (by rfl) ?_
  refine o_aload_nR dL_law_579 rfl rfl (by rfl) ?_
  refine o_iload_n dL_law_580 rfl rfl (by rfl) ?_
  refine o_iconst (v := 1) dL_law_581 rfl (by decide) ?_
  refine o_iadd dL_law_582 rfl ?_
  refine o_scr (j := 6 * k + 1) hX dL_law_583 rfl (nI_add (6 * k) 1) (by omega) hN ?_
  refine o_aload_nR dL_law_584 rfl rfl (by rfl) ?_
  refine o_iload_n dL_law_585 rfl rfl (by rfl) ?_
  refine o_iconst (v := 2) dL_law_586 rfl (by decide) ?_
  refine o_iadd dL_law_587 rfl ?_
  refine o_scr (j := 6 * k + 2) hX dL_law_588 rfl (nI_add (6 * k) 2) (by omega) hN ?_
  refine o_callV cs_X8_ends cv_L_69 (q_ends _ h _ _) hr (Nat.le_of_ble_eq_true rfl) dL_law_589 rfl (by decide) (by rfl) (by rfl) (by rfl) rfl rfl (Nat.le_of_ble_eq_true rfl) (fun rA mA hC => ?_)
  refine o_aload_n dL_law_592 rfl rfl (by rfl) ?_
  refine o_aload_nR dL_law_593 rfl rfl (by rfl) ?_
  refine o_iload_n dL_law_594 rfl rfl (by rfl) ?_
  refine o_iconst (v := 1) dL_law_595 rfl (by decide) ?_
  refine o_iadd dL_law_596 rfl ?_
  refine o_scr (j := 6 * k + 1) hX dL_law_597 rfl (nI_add (6 * k) 1) (by omega) hN ?_
  refine o_aload_nR dL_law_598 rfl rfl (by rfl) ?_
  refine o_iload_n dL_law_599 rfl rfl (by rfl) ?_
  refine o_iconst (v := 2) dL_law_600 rfl (by decide) ?_
  refine o_iadd dL_law_601 rfl ?_
  refine o_scr (j := 6 * k + 2) hX dL_law_602 rfl (nI_add (6 * k) 2) (by omega) hN ?_
  refine o_callV cs_X9_ends cv_L_72 (hC) hr (Nat.le_of_ble_eq_true rfl) dL_law_603 rfl (by decide) (by rfl) (by rfl) (by rfl) rfl rfl (Nat.le_of_ble_eq_true rfl) (fun rB mB hR => ?_)
  refine o_icmp_eq (tgt := 1268) dL_law_606 (by decide) rfl (fun (c606 : rA = rB) => ?_) (fun (c606 : ¬ rA = rB) => ?_)
  · skip
    exact J _ hR.2
  · skip
    exact absurd hR.1.symm c606
set_option maxHeartbeats 4000000 in
set_option maxRecDepth 100000 in
theorem law_cells {X : CX} {g : GX} {b N k : Nat} {zs : Nat → Int32} {mu : Mu} (hr : RM X 9) (hX : SCR X g b N zs) (hk : 6 * k + 6 ≤ N) (hN : N ≤ 3072) (h : Rel mu) (J : ∀ m : Mu, Rel m → WA X g RL 4 cL_law 1268 [(0, vR b), (1, vC 0), (2, vC 94), (3, vI (nI (6 * k)))] [] m) : WA X g RL 4 cL_law 611 [(0, vR b), (1, vC 0), (2, vC 94), (3, vI (nI (6 * k)))] [] mu := by
  refine o_aload_n dL_law_611 rfl rfl (by rfl) ?_
  refine o_aload_nR dL_law_612 rfl rfl (by rfl) ?_
  refine o_iload_n dL_law_613 rfl rfl (by rfl) ?_
  refine o_iconst (v := 1) dL_law_614 rfl (by decide) ?_
  refine o_iadd dL_law_615 rfl ?_
  refine o_scr (j := 6 * k + 1) hX dL_law_616 rfl (nI_add (6 * k) 1) (by omega) hN ?_
  refine o_aload_nR dL_law_617 rfl rfl (by rfl) ?_
  refine o_iload_n dL_law_618 rfl rfl (by rfl) ?_
  refine o_iconst (v := 2) dL_law_619 rfl (by decide) ?_
  refine o_iadd dL_law_620 rfl ?_
  refine o_scr (j := 6 * k + 2) hX dL_law_621 rfl (nI_add (6 * k) 2) (by omega) hN ?_
  refine o_callV cs_X8_cells cv_L_73 (q_cells _ h _ _) hr (Nat.le_of_ble_eq_true rfl) dL_law_622 rfl (by decide) (by rfl) (by rfl) (by rfl) rfl rfl (Nat.le_of_ble_eq_true rfl) (fun rA mA hC => ?_)
  refine o_aload_n dL_law_625 rfl rfl (by rfl) ?_
  refine o_aload_nR dL_law_626 rfl rfl (by rfl) ?_
  refine o_iload_n dL_law_627 rfl rfl (by rfl) ?_
  refine o_iconst (v := 1) dL_law_628 rfl (by decide) ?_
  refine o_iadd dL_law_629 rfl ?_
  refine o_scr (j := 6 * k + 1) hX dL_law_630 rfl (nI_add (6 * k) 1) (by omega) hN ?_
  refine o_aload_nR dL_law_631 rfl rfl (by rfl) ?_
  refine o_iload_n dL_law_632 rfl rfl (by rfl) ?_
  refine o_iconst (v := 2) dL_law_633 rfl (by decide) ?_
  refine o_iadd dL_law_634 rfl ?_
  refine o_scr (j := 6 * k + 2) hX dL_law_635 rfl (nI_add (6 * k) 2) (by omega) hN ?_
  refine o_callV cs_X9_cells cv_L_76 (hC) hr (Nat.le_of_ble_eq_true rfl) dL_law_636 rfl (by decide) (by rfl) (by rfl) (by rfl) rfl rfl (Nat.le_of_ble_eq_true rfl) (fun rB mB hR => ?_)
  refine o_icmp_eq (tgt := 1268) dL_law_639 (by decide) rfl (fun (c639 : rA = rB) => ?_) (fun (c639 : ¬ rA = rB) => ?_)
  · skip
    exact J _ hR.2
  · skip
    exact absurd hR.1.symm c639
set_option maxHeartbeats 4000000 in
set_option maxRecDepth 100000 in
theorem law_middle {X : CX} {g : GX} {b N k : Nat} {zs : Nat → Int32} {mu : Mu} (hr : RM X 9) (hX : SCR X g b N zs) (hk : 6 * k + 6 ≤ N) (hN : N ≤ 3072) (h : Rel mu) (J : ∀ m : Mu, Rel m → WA X g RL 4 cL_law 1268 [(0, vR b), (1, vC 0), (2, vC 94), (3, vI (nI (6 * k)))] [] m) : WA X g RL 4 cL_law 644 [(0, vR b), (1, vC 0), (2, vC 94), (3, vI (nI (6 * k)))] [] mu := by
  refine o_aload_n dL_law_644 rfl rfl (by rfl) ?_
  refine o_aload_nR dL_law_645 rfl rfl (by rfl) ?_
  refine o_iload_n dL_law_646 rfl rfl (by rfl) ?_
  refine o_iconst (v := 1) dL_law_647 rfl (by decide) ?_
  refine o_iadd dL_law_648 rfl ?_
  refine o_scr (j := 6 * k + 1) hX dL_law_649 rfl (nI_add (6 * k) 1) (by omega) hN ?_
  refine o_aload_nR dL_law_650 rfl rfl (by rfl) ?_
  refine o_iload_n dL_law_651 rfl rfl (by rfl) ?_
  refine o_iconst (v := 2) dL_law_652 rfl (by decide) ?_
  refine o_iadd dL_law_653 rfl ?_
  refine o_scr (j := 6 * k + 2) hX dL_law_654 rfl (nI_add (6 * k) 2) (by omega) hN ?_
  refine o_callV cs_X8_middle cv_L_77 (q_middle _ h _ _) hr (Nat.le_of_ble_eq_true rfl) dL_law_655 rfl (by decide) (by rfl) (by rfl) (by rfl) rfl rfl (Nat.le_of_ble_eq_true rfl) (fun rA mA hC => ?_)
  refine o_aload_n dL_law_658 rfl rfl (by rfl) ?_
  refine o_aload_nR dL_law_659 rfl rfl (by rfl) ?_
  refine o_iload_n dL_law_660 rfl rfl (by rfl) ?_
  refine o_iconst (v := 1) dL_law_661 rfl (by decide) ?_
  refine o_iadd dL_law_662 rfl ?_
  refine o_scr (j := 6 * k + 1) hX dL_law_663 rfl (nI_add (6 * k) 1) (by omega) hN ?_
  refine o_aload_nR dL_law_664 rfl rfl (by rfl) ?_
  refine o_iload_n dL_law_665 rfl rfl (by rfl) ?_
  refine o_iconst (v := 2) dL_law_666 rfl (by decide) ?_
  refine o_iadd dL_law_667 rfl ?_
  refine o_scr (j := 6 * k + 2) hX dL_law_668 rfl (nI_add (6 * k) 2) (by omega) hN ?_
  refine o_callV cs_X9_middle cv_L_80 (hC) hr (Nat.le_of_ble_eq_true rfl) dL_law_669 rfl (by decide) (by rfl) (by rfl) (by rfl) rfl rfl (Nat.le_of_ble_eq_true rfl) (fun rB mB hR => ?_)
  refine o_icmp_eq (tgt := 1268) dL_law_672 (by decide) rfl (fun (c672 : rA = rB) => ?_) (fun (c672 : ¬ rA = rB) => ?_)
  · skip
    exact J _ hR.2
  · skip
    exact absurd hR.1.symm c672
set_option maxHeartbeats 4000000 in
set_option maxRecDepth 100000 in
theorem law_mended {X : CX} {g : GX} {b N k : Nat} {zs : Nat → Int32} {mu : Mu} (hr : RM X 9) (hX : SCR X g b N zs) (hk : 6 * k + 6 ≤ N) (hN : N ≤ 3072) (h : Rel mu) (J : ∀ m : Mu, Rel m → WA X g RL 4 cL_law 1268 [(0, vR b), (1, vC 0), (2, vC 94), (3, vI (nI (6 * k)))] [] m) : WA X g RL 4 cL_law 677 [(0, vR b), (1, vC 0), (2, vC 94), (3, vI (nI (6 * k)))] [] mu := by
  refine o_aload_n dL_law_677 rfl rfl (by rfl) ?_
  refine o_aload_nR dL_law_678 rfl rfl (by rfl) ?_
  refine o_iload_n dL_law_679 rfl rfl (by rfl) ?_
  refine o_iconst (v := 1) dL_law_680 rfl (by decide) ?_
  refine o_iadd dL_law_681 rfl ?_
  refine o_scr (j := 6 * k + 1) hX dL_law_682 rfl (nI_add (6 * k) 1) (by omega) hN ?_
  refine o_aload_nR dL_law_683 rfl rfl (by rfl) ?_
  refine o_iload_n dL_law_684 rfl rfl (by rfl) ?_
  refine o_iconst (v := 2) dL_law_685 rfl (by decide) ?_
  refine o_iadd dL_law_686 rfl ?_
  refine o_scr (j := 6 * k + 2) hX dL_law_687 rfl (nI_add (6 * k) 2) (by omega) hN ?_
  refine o_callV cs_X8_mended cv_L_81 (q_mended _ h _ _) hr (Nat.le_of_ble_eq_true rfl) dL_law_688 rfl (by decide) (by rfl) (by rfl) (by rfl) rfl rfl (Nat.le_of_ble_eq_true rfl) (fun rA mA hC => ?_)
  refine o_aload_n dL_law_691 rfl rfl (by rfl) ?_
  refine o_aload_nR dL_law_692 rfl rfl (by rfl) ?_
  refine o_iload_n dL_law_693 rfl rfl (by rfl) ?_
  refine o_iconst (v := 1) dL_law_694 rfl (by decide) ?_
  refine o_iadd dL_law_695 rfl ?_
  refine o_scr (j := 6 * k + 1) hX dL_law_696 rfl (nI_add (6 * k) 1) (by omega) hN ?_
  refine o_aload_nR dL_law_697 rfl rfl (by rfl) ?_
  refine o_iload_n dL_law_698 rfl rfl (by rfl) ?_
  refine o_iconst (v := 2) dL_law_699 rfl (by decide) ?_
  refine o_iadd dL_law_700 rfl ?_
  refine o_scr (j := 6 * k + 2) hX dL_law_701 rfl (nI_add (6 * k) 2) (by omega) hN ?_
  refine o_callV cs_X9_mended cv_L_84 (hC) hr (Nat.le_of_ble_eq_true rfl) dL_law_702 rfl (by decide) (by rfl) (by rfl) (by rfl) rfl rfl (Nat.le_of_ble_eq_true rfl) (fun rB mB hR => ?_)
  refine o_icmp_eq (tgt := 1268) dL_law_705 (by decide) rfl (fun (c705 : rA = rB) => ?_) (fun (c705 : ¬ rA = rB) => ?_)
  · skip
    exact J _ hR.2
  · skip
    exact absurd hR.1.symm c705
set_option maxHeartbeats 4000000 in
set_option maxRecDepth 100000 in
theorem law_odds {X : CX} {g : GX} {b N k : Nat} {zs : Nat → Int32} {mu : Mu} (hr : RM X 9) (hX : SCR X g b N zs) (hk : 6 * k + 6 ≤ N) (hN : N ≤ 3072) (h : Rel mu) (J : ∀ m : Mu, Rel m → WA X g RL 4 cL_law 1268 [(0, vR b), (1, vC 0), (2, vC 94), (3, vI (nI (6 * k)))] [] m) : WA X g RL 4 cL_law 710 [(0, vR b), (1, vC 0), (2, vC 94), (3, vI (nI (6 * k)))] [] mu := by
  refine o_aload_n dL_law_710 rfl rfl (by rfl) ?_
  refine o_aload_nR dL_law_711 rfl rfl (by rfl) ?_
  refine o_iload_n dL_law_712 rfl rfl (by rfl) ?_
  refine o_iconst (v := 1) dL_law_713 rfl (by decide) ?_
  refine o_iadd dL_law_714 rfl ?_
  refine o_scr (j := 6 * k + 1) hX dL_law_715 rfl (nI_add (6 * k) 1) (by omega) hN ?_
  refine o_callV cs_X8_odds cv_L_85 (q_odds _ h _) hr (Nat.le_of_ble_eq_true rfl) dL_law_716 rfl (by decide) (by rfl) (by rfl) (by rfl) rfl rfl (Nat.le_of_ble_eq_true rfl) (fun rA mA hC => ?_)
  refine o_aload_n dL_law_719 rfl rfl (by rfl) ?_
  refine o_aload_nR dL_law_720 rfl rfl (by rfl) ?_
  refine o_iload_n dL_law_721 rfl rfl (by rfl) ?_
  refine o_iconst (v := 1) dL_law_722 rfl (by decide) ?_
  refine o_iadd dL_law_723 rfl ?_
  refine o_scr (j := 6 * k + 1) hX dL_law_724 rfl (nI_add (6 * k) 1) (by omega) hN ?_
  refine o_callV cs_X9_odds cv_L_88 (hC) hr (Nat.le_of_ble_eq_true rfl) dL_law_725 rfl (by decide) (by rfl) (by rfl) (by rfl) rfl rfl (Nat.le_of_ble_eq_true rfl) (fun rB mB hR => ?_)
  refine o_icmp_eq (tgt := 1268) dL_law_728 (by decide) rfl (fun (c728 : rA = rB) => ?_) (fun (c728 : ¬ rA = rB) => ?_)
  · skip
    exact J _ hR.2
  · skip
    exact absurd hR.1.symm c728
set_option maxHeartbeats 4000000 in
set_option maxRecDepth 100000 in
theorem law_which {X : CX} {g : GX} {b N k : Nat} {zs : Nat → Int32} {mu : Mu} (hr : RM X 9) (hX : SCR X g b N zs) (hk : 6 * k + 6 ≤ N) (hN : N ≤ 3072) (h : Rel mu) (J : ∀ m : Mu, Rel m → WA X g RL 4 cL_law 1268 [(0, vR b), (1, vC 0), (2, vC 94), (3, vI (nI (6 * k)))] [] m) : WA X g RL 4 cL_law 733 [(0, vR b), (1, vC 0), (2, vC 94), (3, vI (nI (6 * k)))] [] mu := by
  refine o_aload_n dL_law_733 rfl rfl (by rfl) ?_
  refine o_callV cs_X8_which cv_L_89 (q_which _ h ) hr (Nat.le_of_ble_eq_true rfl) dL_law_734 rfl (by decide) (by rfl) (by rfl) (by rfl) rfl rfl (Nat.le_of_ble_eq_true rfl) (fun rA mA hC => ?_)
  refine o_aload_n dL_law_737 rfl rfl (by rfl) ?_
  refine o_callV cs_X9_which cv_L_92 (hC) hr (Nat.le_of_ble_eq_true rfl) dL_law_738 rfl (by decide) (by rfl) (by rfl) (by rfl) rfl rfl (Nat.le_of_ble_eq_true rfl) (fun rB mB hR => ?_)
  refine o_icmp_eq (tgt := 1268) dL_law_741 (by decide) rfl (fun (c741 : rA = rB) => ?_) (fun (c741 : ¬ rA = rB) => ?_)
  · skip
    exact J _ hR.2
  · skip
    exact absurd hR.1.symm c741
set_option maxHeartbeats 4000000 in
set_option maxRecDepth 100000 in
theorem law_trick {X : CX} {g : GX} {b N k : Nat} {zs : Nat → Int32} {mu : Mu} (hr : RM X 9) (hX : SCR X g b N zs) (hk : 6 * k + 6 ≤ N) (hN : N ≤ 3072) (h : Rel mu) (J : ∀ m : Mu, Rel m → WA X g RL 4 cL_law 1268 [(0, vR b), (1, vC 0), (2, vC 94), (3, vI (nI (6 * k)))] [] m) : WA X g RL 4 cL_law 746 [(0, vR b), (1, vC 0), (2, vC 94), (3, vI (nI (6 * k)))] [] mu := by
  refine o_aload_n dL_law_746 rfl rfl (by rfl) ?_
  refine o_aload_nR dL_law_747 rfl rfl (by rfl) ?_
  refine o_iload_n dL_law_748 rfl rfl (by rfl) ?_
  refine o_iconst (v := 1) dL_law_749 rfl (by decide) ?_
  refine o_iadd dL_law_750 rfl ?_
  refine o_scr (j := 6 * k + 1) hX dL_law_751 rfl (nI_add (6 * k) 1) (by omega) hN ?_
  refine o_aload_nR dL_law_752 rfl rfl (by rfl) ?_
  refine o_iload_n dL_law_753 rfl rfl (by rfl) ?_
  refine o_iconst (v := 2) dL_law_754 rfl (by decide) ?_
  refine o_iadd dL_law_755 rfl ?_
  refine o_scr (j := 6 * k + 2) hX dL_law_756 rfl (nI_add (6 * k) 2) (by omega) hN ?_
  refine o_aload_nR dL_law_757 rfl rfl (by rfl) ?_
  refine o_iload_n dL_law_758 rfl rfl (by rfl) ?_
  refine o_iconst (v := 3) dL_law_759 rfl (by decide) ?_
  refine o_iadd dL_law_760 rfl ?_
  refine o_scr (j := 6 * k + 3) hX dL_law_761 rfl (nI_add (6 * k) 3) (by omega) hN ?_
  refine o_aload_nR dL_law_762 rfl rfl (by rfl) ?_
  refine o_iload_n dL_law_763 rfl rfl (by rfl) ?_
  refine o_iconst (v := 4) dL_law_764 rfl (by decide) ?_
  refine o_iadd dL_law_765 rfl ?_
  refine o_scr (j := 6 * k + 4) hX dL_law_766 rfl (nI_add (6 * k) 4) (by omega) hN ?_
  refine o_callV cs_X8_trick cv_L_93 (q_trick _ h _ _ _ _) hr (Nat.le_of_ble_eq_true rfl) dL_law_767 rfl (by decide) (by rfl) (by rfl) (by rfl) rfl rfl (Nat.le_of_ble_eq_true rfl) (fun rA mA hC => ?_)
  refine o_aload_n dL_law_770 rfl rfl (by rfl) ?_
  refine o_aload_nR dL_law_771 rfl rfl (by rfl) ?_
  refine o_iload_n dL_law_772 rfl rfl (by rfl) ?_
  refine o_iconst (v := 1) dL_law_773 rfl (by decide) ?_
  refine o_iadd dL_law_774 rfl ?_
  refine o_scr (j := 6 * k + 1) hX dL_law_775 rfl (nI_add (6 * k) 1) (by omega) hN ?_
  refine o_aload_nR dL_law_776 rfl rfl (by rfl) ?_
  refine o_iload_n dL_law_777 rfl rfl (by rfl) ?_
  refine o_iconst (v := 2) dL_law_778 rfl (by decide) ?_
  refine o_iadd dL_law_779 rfl ?_
  refine o_scr (j := 6 * k + 2) hX dL_law_780 rfl (nI_add (6 * k) 2) (by omega) hN ?_
  refine o_aload_nR dL_law_781 rfl rfl (by rfl) ?_
  refine o_iload_n dL_law_782 rfl rfl (by rfl) ?_
  refine o_iconst (v := 3) dL_law_783 rfl (by decide) ?_
  refine o_iadd dL_law_784 rfl ?_
  refine o_scr (j := 6 * k + 3) hX dL_law_785 rfl (nI_add (6 * k) 3) (by omega) hN ?_
  refine o_aload_nR dL_law_786 rfl rfl (by rfl) ?_
  refine o_iload_n dL_law_787 rfl rfl (by rfl) ?_
  refine o_iconst (v := 4) dL_law_788 rfl (by decide) ?_
  refine o_iadd dL_law_789 rfl ?_
  refine o_scr (j := 6 * k + 4) hX dL_law_790 rfl (nI_add (6 * k) 4) (by omega) hN ?_
  refine o_callV cs_X9_trick cv_L_97 (hC) hr (Nat.le_of_ble_eq_true rfl) dL_law_791 rfl (by decide) (by rfl) (by rfl) (by rfl) rfl rfl (Nat.le_of_ble_eq_true rfl) (fun rB mB hR => ?_)
  refine o_icmp_eq (tgt := 1268) dL_law_794 (by decide) rfl (fun (c794 : rA = rB) => ?_) (fun (c794 : ¬ rA = rB) => ?_)
  · skip
    exact J _ hR.2
  · skip
    exact absurd hR.1.symm c794
set_option maxHeartbeats 4000000 in
set_option maxRecDepth 100000 in
theorem law_most {X : CX} {g : GX} {b N k : Nat} {zs : Nat → Int32} {mu : Mu} (hr : RM X 9) (hX : SCR X g b N zs) (hk : 6 * k + 6 ≤ N) (hN : N ≤ 3072) (h : Rel mu) (J : ∀ m : Mu, Rel m → WA X g RL 4 cL_law 1268 [(0, vR b), (1, vC 0), (2, vC 94), (3, vI (nI (6 * k)))] [] m) : WA X g RL 4 cL_law 799 [(0, vR b), (1, vC 0), (2, vC 94), (3, vI (nI (6 * k)))] [] mu := by
  refine o_aload_n dL_law_799 rfl rfl (by rfl) ?_
  refine o_aload_nR dL_law_800 rfl rfl (by rfl) ?_
  refine o_iload_n dL_law_801 rfl rfl (by rfl) ?_
  refine o_iconst (v := 1) dL_law_802 rfl (by decide) ?_
  refine o_iadd dL_law_803 rfl ?_
  refine o_scr (j := 6 * k + 1) hX dL_law_804 rfl (nI_add (6 * k) 1) (by omega) hN ?_
  refine o_aload_nR dL_law_805 rfl rfl (by rfl) ?_
  refine o_iload_n dL_law_806 rfl rfl (by rfl) ?_
  refine o_iconst (v := 2) dL_law_807 rfl (by decide) ?_
  refine o_iadd dL_law_808 rfl ?_
  refine o_scr (j := 6 * k + 2) hX dL_law_809 rfl (nI_add (6 * k) 2) (by omega) hN ?_
  refine o_callV cs_X8_most cv_L_98 (q_most _ h _ _) hr (Nat.le_of_ble_eq_true rfl) dL_law_810 rfl (by decide) (by rfl) (by rfl) (by rfl) rfl rfl (Nat.le_of_ble_eq_true rfl) (fun rA mA hC => ?_)
  refine o_aload_n dL_law_813 rfl rfl (by rfl) ?_
  refine o_aload_nR dL_law_814 rfl rfl (by rfl) ?_
  refine o_iload_n dL_law_815 rfl rfl (by rfl) ?_
  refine o_iconst (v := 1) dL_law_816 rfl (by decide) ?_
  refine o_iadd dL_law_817 rfl ?_
  refine o_scr (j := 6 * k + 1) hX dL_law_818 rfl (nI_add (6 * k) 1) (by omega) hN ?_
  refine o_aload_nR dL_law_819 rfl rfl (by rfl) ?_
  refine o_iload_n dL_law_820 rfl rfl (by rfl) ?_
  refine o_iconst (v := 2) dL_law_821 rfl (by decide) ?_
  refine o_iadd dL_law_822 rfl ?_
  refine o_scr (j := 6 * k + 2) hX dL_law_823 rfl (nI_add (6 * k) 2) (by omega) hN ?_
  refine o_callV cs_X9_most cv_L_101 (hC) hr (Nat.le_of_ble_eq_true rfl) dL_law_824 rfl (by decide) (by rfl) (by rfl) (by rfl) rfl rfl (Nat.le_of_ble_eq_true rfl) (fun rB mB hR => ?_)
  refine o_icmp_eq (tgt := 1268) dL_law_827 (by decide) rfl (fun (c827 : rA = rB) => ?_) (fun (c827 : ¬ rA = rB) => ?_)
  · skip
    exact J _ hR.2
  · skip
    exact absurd hR.1.symm c827
set_option maxHeartbeats 4000000 in
set_option maxRecDepth 100000 in
theorem law_row {X : CX} {g : GX} {b N k : Nat} {zs : Nat → Int32} {mu : Mu} (hr : RM X 9) (hX : SCR X g b N zs) (hk : 6 * k + 6 ≤ N) (hN : N ≤ 3072) (h : Rel mu) (J : ∀ m : Mu, Rel m → WA X g RL 4 cL_law 1268 [(0, vR b), (1, vC 0), (2, vC 94), (3, vI (nI (6 * k)))] [] m) : WA X g RL 4 cL_law 832 [(0, vR b), (1, vC 0), (2, vC 94), (3, vI (nI (6 * k)))] [] mu := by
  refine o_aload_n dL_law_832 rfl rfl (by rfl) ?_
  refine o_aload_nR dL_law_833 rfl rfl (by rfl) ?_
  refine o_iload_n dL_law_834 rfl rfl (by rfl) ?_
  refine o_iconst (v := 1) dL_law_835 rfl (by decide) ?_
  refine o_iadd dL_law_836 rfl ?_
  refine o_scr (j := 6 * k + 1) hX dL_law_837 rfl (nI_add (6 * k) 1) (by omega) hN ?_
  refine o_aload_nR dL_law_838 rfl rfl (by rfl) ?_
  refine o_iload_n dL_law_839 rfl rfl (by rfl) ?_
  refine o_iconst (v := 2) dL_law_840 rfl (by decide) ?_
  refine o_iadd dL_law_841 rfl ?_
  refine o_scr (j := 6 * k + 2) hX dL_law_842 rfl (nI_add (6 * k) 2) (by omega) hN ?_
  refine o_callV cs_X8_row cv_L_102 (q_row _ h _ _) hr (Nat.le_of_ble_eq_true rfl) dL_law_843 rfl (by decide) (by rfl) (by rfl) (by rfl) rfl rfl (Nat.le_of_ble_eq_true rfl) (fun rA mA hC => ?_)
  refine o_aload_n dL_law_846 rfl rfl (by rfl) ?_
  refine o_aload_nR dL_law_847 rfl rfl (by rfl) ?_
  refine o_iload_n dL_law_848 rfl rfl (by rfl) ?_
  refine o_iconst (v := 1) dL_law_849 rfl (by decide) ?_
  refine o_iadd dL_law_850 rfl ?_
  refine o_scr (j := 6 * k + 1) hX dL_law_851 rfl (nI_add (6 * k) 1) (by omega) hN ?_
  refine o_aload_nR dL_law_852 rfl rfl (by rfl) ?_
  refine o_iload_n dL_law_853 rfl rfl (by rfl) ?_
  refine o_iconst (v := 2) dL_law_854 rfl (by decide) ?_
  refine o_iadd dL_law_855 rfl ?_
  refine o_scr (j := 6 * k + 2) hX dL_law_856 rfl (nI_add (6 * k) 2) (by omega) hN ?_
  refine o_callV cs_X9_row cv_L_105 (hC) hr (Nat.le_of_ble_eq_true rfl) dL_law_857 rfl (by decide) (by rfl) (by rfl) (by rfl) rfl rfl (Nat.le_of_ble_eq_true rfl) (fun rB mB hR => ?_)
  refine o_icmp_eq (tgt := 1268) dL_law_860 (by decide) rfl (fun (c860 : rA = rB) => ?_) (fun (c860 : ¬ rA = rB) => ?_)
  · skip
    exact J _ hR.2
  · skip
    exact absurd hR.1.symm c860
set_option maxHeartbeats 4000000 in
set_option maxRecDepth 100000 in
theorem law_clear {X : CX} {g : GX} {b N k : Nat} {zs : Nat → Int32} {mu : Mu} (hr : RM X 9) (hX : SCR X g b N zs) (hk : 6 * k + 6 ≤ N) (hN : N ≤ 3072) (h : Rel mu) (J : ∀ m : Mu, Rel m → WA X g RL 4 cL_law 1268 [(0, vR b), (1, vC 0), (2, vC 94), (3, vI (nI (6 * k)))] [] m) : WA X g RL 4 cL_law 865 [(0, vR b), (1, vC 0), (2, vC 94), (3, vI (nI (6 * k)))] [] mu := by
  refine o_aload_n dL_law_865 rfl rfl (by rfl) ?_
  refine o_callV cs_X8_clear cv_L_106 (q_clear _ h ) hr (Nat.le_of_ble_eq_true rfl) dL_law_866 rfl (by decide) (by rfl) (by rfl) (by rfl) rfl rfl (Nat.le_of_ble_eq_true rfl) (fun rA mA hC => ?_)
  refine o_aload_n dL_law_869 rfl rfl (by rfl) ?_
  refine o_callV cs_X9_clear cv_L_109 (hC) hr (Nat.le_of_ble_eq_true rfl) dL_law_870 rfl (by decide) (by rfl) (by rfl) (by rfl) rfl rfl (Nat.le_of_ble_eq_true rfl) (fun rB mB hR => ?_)
  refine o_icmp_eq (tgt := 1268) dL_law_873 (by decide) rfl (fun (c873 : rA = rB) => ?_) (fun (c873 : ¬ rA = rB) => ?_)
  · skip
    exact J _ hR.2
  · skip
    exact absurd hR.1.symm c873
set_option maxHeartbeats 4000000 in
set_option maxRecDepth 100000 in
theorem law_cord {X : CX} {g : GX} {b N k : Nat} {zs : Nat → Int32} {mu : Mu} (hr : RM X 9) (hX : SCR X g b N zs) (hk : 6 * k + 6 ≤ N) (hN : N ≤ 3072) (h : Rel mu) (J : ∀ m : Mu, Rel m → WA X g RL 4 cL_law 1268 [(0, vR b), (1, vC 0), (2, vC 94), (3, vI (nI (6 * k)))] [] m) : WA X g RL 4 cL_law 878 [(0, vR b), (1, vC 0), (2, vC 94), (3, vI (nI (6 * k)))] [] mu := by
  refine o_aload_n dL_law_878 rfl rfl (by rfl) ?_
  refine o_aload_nR dL_law_879 rfl rfl (by rfl) ?_
  refine o_iload_n dL_law_880 rfl rfl (by rfl) ?_
  refine o_iconst (v := 1) dL_law_881 rfl (by decide) ?_
  refine o_iadd dL_law_882 rfl ?_
  refine o_scr (j := 6 * k + 1) hX dL_law_883 rfl (nI_add (6 * k) 1) (by omega) hN ?_
  refine o_aload_nR dL_law_884 rfl rfl (by rfl) ?_
  refine o_iload_n dL_law_885 rfl rfl (by rfl) ?_
  refine o_iconst (v := 2) dL_law_886 rfl (by decide) ?_
  refine o_iadd dL_law_887 rfl ?_
  refine o_scr (j := 6 * k + 2) hX dL_law_888 rfl (nI_add (6 * k) 2) (by omega) hN ?_
  refine o_callV cs_X8_cord cv_L_110 (q_cord _ h _ _) hr (Nat.le_of_ble_eq_true rfl) dL_law_889 rfl (by decide) (by rfl) (by rfl) (by rfl) rfl rfl (Nat.le_of_ble_eq_true rfl) (fun rA mA hC => ?_)
  refine o_aload_n dL_law_892 rfl rfl (by rfl) ?_
  refine o_aload_nR dL_law_893 rfl rfl (by rfl) ?_
  refine o_iload_n dL_law_894 rfl rfl (by rfl) ?_
  refine o_iconst (v := 1) dL_law_895 rfl (by decide) ?_
  refine o_iadd dL_law_896 rfl ?_
  refine o_scr (j := 6 * k + 1) hX dL_law_897 rfl (nI_add (6 * k) 1) (by omega) hN ?_
  refine o_aload_nR dL_law_898 rfl rfl (by rfl) ?_
  refine o_iload_n dL_law_899 rfl rfl (by rfl) ?_
  refine o_iconst (v := 2) dL_law_900 rfl (by decide) ?_
  refine o_iadd dL_law_901 rfl ?_
  refine o_scr (j := 6 * k + 2) hX dL_law_902 rfl (nI_add (6 * k) 2) (by omega) hN ?_
  refine o_callV cs_X9_cord cv_L_113 (hC) hr (Nat.le_of_ble_eq_true rfl) dL_law_903 rfl (by decide) (by rfl) (by rfl) (by rfl) rfl rfl (Nat.le_of_ble_eq_true rfl) (fun rB mB hR => ?_)
  refine o_icmp_eq (tgt := 1268) dL_law_906 (by decide) rfl (fun (c906 : rA = rB) => ?_) (fun (c906 : ¬ rA = rB) => ?_)
  · skip
    exact J _ hR.2
  · skip
    exact absurd hR.1.symm c906
set_option maxHeartbeats 4000000 in
set_option maxRecDepth 100000 in
theorem law_down {X : CX} {g : GX} {b N k : Nat} {zs : Nat → Int32} {mu : Mu} (hr : RM X 9) (hX : SCR X g b N zs) (hk : 6 * k + 6 ≤ N) (hN : N ≤ 3072) (h : Rel mu) (J : ∀ m : Mu, Rel m → WA X g RL 4 cL_law 1268 [(0, vR b), (1, vC 0), (2, vC 94), (3, vI (nI (6 * k)))] [] m) : WA X g RL 4 cL_law 911 [(0, vR b), (1, vC 0), (2, vC 94), (3, vI (nI (6 * k)))] [] mu := by
  refine o_aload_n dL_law_911 rfl rfl (by rfl) ?_
  refine o_aload_nR dL_law_912 rfl rfl (by rfl) ?_
  refine o_iload_n dL_law_913 rfl rfl (by rfl) ?_
  refine o_iconst (v := 1) dL_law_914 rfl (by decide) ?_
  refine o_iadd dL_law_915 rfl ?_
  refine o_scr (j := 6 * k + 1) hX dL_law_916 rfl (nI_add (6 * k) 1) (by omega) hN ?_
  refine o_aload_nR dL_law_917 rfl rfl (by rfl) ?_
  refine o_iload_n dL_law_918 rfl rfl (by rfl) ?_
  refine o_iconst (v := 2) dL_law_919 rfl (by decide) ?_
  refine o_iadd dL_law_920 rfl ?_
  refine o_scr (j := 6 * k + 2) hX dL_law_921 rfl (nI_add (6 * k) 2) (by omega) hN ?_
  refine o_callV cs_X8_down cv_L_114 (q_down _ h _ _) hr (Nat.le_of_ble_eq_true rfl) dL_law_922 rfl (by decide) (by rfl) (by rfl) (by rfl) rfl rfl (Nat.le_of_ble_eq_true rfl) (fun rA mA hC => ?_)
  refine o_aload_n dL_law_925 rfl rfl (by rfl) ?_
  refine o_aload_nR dL_law_926 rfl rfl (by rfl) ?_
  refine o_iload_n dL_law_927 rfl rfl (by rfl) ?_
  refine o_iconst (v := 1) dL_law_928 rfl (by decide) ?_
  refine o_iadd dL_law_929 rfl ?_
  refine o_scr (j := 6 * k + 1) hX dL_law_930 rfl (nI_add (6 * k) 1) (by omega) hN ?_
  refine o_aload_nR dL_law_931 rfl rfl (by rfl) ?_
  refine o_iload_n dL_law_932 rfl rfl (by rfl) ?_
  refine o_iconst (v := 2) dL_law_933 rfl (by decide) ?_
  refine o_iadd dL_law_934 rfl ?_
  refine o_scr (j := 6 * k + 2) hX dL_law_935 rfl (nI_add (6 * k) 2) (by omega) hN ?_
  refine o_callV cs_X9_down cv_L_117 (hC) hr (Nat.le_of_ble_eq_true rfl) dL_law_936 rfl (by decide) (by rfl) (by rfl) (by rfl) rfl rfl (Nat.le_of_ble_eq_true rfl) (fun rB mB hR => ?_)
  refine o_icmp_eq (tgt := 1268) dL_law_939 (by decide) rfl (fun (c939 : rA = rB) => ?_) (fun (c939 : ¬ rA = rB) => ?_)
  · skip
    exact J _ hR.2
  · skip
    exact absurd hR.1.symm c939
set_option maxHeartbeats 4000000 in
set_option maxRecDepth 100000 in
theorem law_filmed {X : CX} {g : GX} {b N k : Nat} {zs : Nat → Int32} {mu : Mu} (hr : RM X 9) (hX : SCR X g b N zs) (hk : 6 * k + 6 ≤ N) (hN : N ≤ 3072) (h : Rel mu) (J : ∀ m : Mu, Rel m → WA X g RL 4 cL_law 1268 [(0, vR b), (1, vC 0), (2, vC 94), (3, vI (nI (6 * k)))] [] m) : WA X g RL 4 cL_law 944 [(0, vR b), (1, vC 0), (2, vC 94), (3, vI (nI (6 * k)))] [] mu := by
  refine o_aload_n dL_law_944 rfl rfl (by rfl) ?_
  refine o_aload_nR dL_law_945 rfl rfl (by rfl) ?_
  refine o_iload_n dL_law_946 rfl rfl (by rfl) ?_
  refine o_iconst (v := 1) dL_law_947 rfl (by decide) ?_
  refine o_iadd dL_law_948 rfl ?_
  refine o_scr (j := 6 * k + 1) hX dL_law_949 rfl (nI_add (6 * k) 1) (by omega) hN ?_
  refine o_aload_nR dL_law_950 rfl rfl (by rfl) ?_
  refine o_iload_n dL_law_951 rfl rfl (by rfl) ?_
  refine o_iconst (v := 2) dL_law_952 rfl (by decide) ?_
  refine o_iadd dL_law_953 rfl ?_
  refine o_scr (j := 6 * k + 2) hX dL_law_954 rfl (nI_add (6 * k) 2) (by omega) hN ?_
  refine o_aload_nR dL_law_955 rfl rfl (by rfl) ?_
  refine o_iload_n dL_law_956 rfl rfl (by rfl) ?_
  refine o_iconst (v := 3) dL_law_957 rfl (by decide) ?_
  refine o_iadd dL_law_958 rfl ?_
  refine o_scr (j := 6 * k + 3) hX dL_law_959 rfl (nI_add (6 * k) 3) (by omega) hN ?_
  refine o_aload_nR dL_law_960 rfl rfl (by rfl) ?_
  refine o_iload_n dL_law_961 rfl rfl (by rfl) ?_
  refine o_iconst (v := 4) dL_law_962 rfl (by decide) ?_
  refine o_iadd dL_law_963 rfl ?_
  refine o_scr (j := 6 * k + 4) hX dL_law_964 rfl (nI_add (6 * k) 4) (by omega) hN ?_
  refine o_aload_nR dL_law_965 rfl rfl (by rfl) ?_
  refine o_iload_n dL_law_966 rfl rfl (by rfl) ?_
  refine o_iconst (v := 5) dL_law_967 rfl (by decide) ?_
  refine o_iadd dL_law_968 rfl ?_
  refine o_scr (j := 6 * k + 5) hX dL_law_969 rfl (nI_add (6 * k) 5) (by omega) hN ?_
  refine o_callV cs_X8_filmed cv_L_118 (q_filmed _ h _ _ _ _ _) hr (Nat.le_of_ble_eq_true rfl) dL_law_970 rfl (by decide) (by rfl) (by rfl) (by rfl) rfl rfl (Nat.le_of_ble_eq_true rfl) (fun rA mA hC => ?_)
  refine o_aload_n dL_law_973 rfl rfl (by rfl) ?_
  refine o_aload_nR dL_law_974 rfl rfl (by rfl) ?_
  refine o_iload_n dL_law_975 rfl rfl (by rfl) ?_
  refine o_iconst (v := 1) dL_law_976 rfl (by decide) ?_
  refine o_iadd dL_law_977 rfl ?_
  refine o_scr (j := 6 * k + 1) hX dL_law_978 rfl (nI_add (6 * k) 1) (by omega) hN ?_
  refine o_aload_nR dL_law_979 rfl rfl (by rfl) ?_
  refine o_iload_n dL_law_980 rfl rfl (by rfl) ?_
  refine o_iconst (v := 2) dL_law_981 rfl (by decide) ?_
  refine o_iadd dL_law_982 rfl ?_
  refine o_scr (j := 6 * k + 2) hX dL_law_983 rfl (nI_add (6 * k) 2) (by omega) hN ?_
  refine o_aload_nR dL_law_984 rfl rfl (by rfl) ?_
  refine o_iload_n dL_law_985 rfl rfl (by rfl) ?_
  refine o_iconst (v := 3) dL_law_986 rfl (by decide) ?_
  refine o_iadd dL_law_987 rfl ?_
  refine o_scr (j := 6 * k + 3) hX dL_law_988 rfl (nI_add (6 * k) 3) (by omega) hN ?_
  refine o_aload_nR dL_law_989 rfl rfl (by rfl) ?_
  refine o_iload_n dL_law_990 rfl rfl (by rfl) ?_
  refine o_iconst (v := 4) dL_law_991 rfl (by decide) ?_
  refine o_iadd dL_law_992 rfl ?_
  refine o_scr (j := 6 * k + 4) hX dL_law_993 rfl (nI_add (6 * k) 4) (by omega) hN ?_
  refine o_aload_nR dL_law_994 rfl rfl (by rfl) ?_
  refine o_iload_n dL_law_995 rfl rfl (by rfl) ?_
  refine o_iconst (v := 5) dL_law_996 rfl (by decide) ?_
  refine o_iadd dL_law_997 rfl ?_
  refine o_scr (j := 6 * k + 5) hX dL_law_998 rfl (nI_add (6 * k) 5) (by omega) hN ?_
  refine o_callV cs_X9_filmed cv_L_122 (hC) hr (Nat.le_of_ble_eq_true rfl) dL_law_999 rfl (by decide) (by rfl) (by rfl) (by rfl) rfl rfl (Nat.le_of_ble_eq_true rfl) (fun rB mB hR => ?_)
  refine o_icmp_eq (tgt := 1268) dL_law_1002 (by decide) rfl (fun (c1002 : rA = rB) => ?_) (fun (c1002 : ¬ rA = rB) => ?_)
  · skip
    exact J _ hR.2
  · skip
    exact absurd hR.1.symm c1002
set_option maxHeartbeats 4000000 in
set_option maxRecDepth 100000 in
theorem law_image {X : CX} {g : GX} {b N k : Nat} {zs : Nat → Int32} {mu : Mu} (hr : RM X 9) (hX : SCR X g b N zs) (hk : 6 * k + 6 ≤ N) (hN : N ≤ 3072) (h : Rel mu) (J : ∀ m : Mu, Rel m → WA X g RL 4 cL_law 1268 [(0, vR b), (1, vC 0), (2, vC 94), (3, vI (nI (6 * k)))] [] m) : WA X g RL 4 cL_law 1007 [(0, vR b), (1, vC 0), (2, vC 94), (3, vI (nI (6 * k)))] [] mu := by
  refine o_aload_n dL_law_1007 rfl rfl (by rfl) ?_
  refine o_callV cs_X8_image cv_L_123 (q_image _ h ) hr (Nat.le_of_ble_eq_true rfl) dL_law_1008 rfl (by decide) (by rfl) (by rfl) (by rfl) rfl rfl (Nat.le_of_ble_eq_true rfl) (fun rA mA hC => ?_)
  refine o_aload_n dL_law_1011 rfl rfl (by rfl) ?_
  refine o_callV cs_X9_image cv_L_126 (hC) hr (Nat.le_of_ble_eq_true rfl) dL_law_1012 rfl (by decide) (by rfl) (by rfl) (by rfl) rfl rfl (Nat.le_of_ble_eq_true rfl) (fun rB mB hR => ?_)
  refine o_icmp_eq (tgt := 1268) dL_law_1015 (by decide) rfl (fun (c1015 : rA = rB) => ?_) (fun (c1015 : ¬ rA = rB) => ?_)
  · skip
    exact J _ hR.2
  · skip
    exact absurd hR.1.symm c1015
set_option maxHeartbeats 4000000 in
set_option maxRecDepth 100000 in
theorem law_restore {X : CX} {g : GX} {b N k : Nat} {zs : Nat → Int32} {mu : Mu} (hr : RM X 9) (hX : SCR X g b N zs) (hk : 6 * k + 6 ≤ N) (hN : N ≤ 3072) (h : Rel mu) (J : ∀ m : Mu, Rel m → WA X g RL 4 cL_law 1268 [(0, vR b), (1, vC 0), (2, vC 94), (3, vI (nI (6 * k)))] [] m) : WA X g RL 4 cL_law 1020 [(0, vR b), (1, vC 0), (2, vC 94), (3, vI (nI (6 * k)))] [] mu := by
  refine o_aload_n dL_law_1020 rfl rfl (by rfl) ?_
  refine o_callV cs_X8_restore cv_L_127 (q_restore _ h ) hr (Nat.le_of_ble_eq_true rfl) dL_law_1021 rfl (by decide) (by rfl) (by rfl) (by rfl) rfl rfl (Nat.le_of_ble_eq_true rfl) (fun rA mA hC => ?_)
  refine o_aload_n dL_law_1024 rfl rfl (by rfl) ?_
  refine o_callV cs_X9_restore cv_L_130 (hC) hr (Nat.le_of_ble_eq_true rfl) dL_law_1025 rfl (by decide) (by rfl) (by rfl) (by rfl) rfl rfl (Nat.le_of_ble_eq_true rfl) (fun rB mB hR => ?_)
  refine o_icmp_eq (tgt := 1268) dL_law_1028 (by decide) rfl (fun (c1028 : rA = rB) => ?_) (fun (c1028 : ¬ rA = rB) => ?_)
  · skip
    exact J _ hR.2
  · skip
    exact absurd hR.1.symm c1028
set_option maxHeartbeats 4000000 in
set_option maxRecDepth 100000 in
theorem law_film {X : CX} {g : GX} {b N k : Nat} {zs : Nat → Int32} {mu : Mu} (hr : RM X 9) (hX : SCR X g b N zs) (hk : 6 * k + 6 ≤ N) (hN : N ≤ 3072) (h : Rel mu) (J : ∀ m : Mu, Rel m → WA X g RL 4 cL_law 1268 [(0, vR b), (1, vC 0), (2, vC 94), (3, vI (nI (6 * k)))] [] m) : WA X g RL 4 cL_law 1033 [(0, vR b), (1, vC 0), (2, vC 94), (3, vI (nI (6 * k)))] [] mu := by
  refine o_aload_n dL_law_1033 rfl rfl (by rfl) ?_
  refine o_aload_nR dL_law_1034 rfl rfl (by rfl) ?_
  refine o_iload_n dL_law_1035 rfl rfl (by rfl) ?_
  refine o_iconst (v := 1) dL_law_1036 rfl (by decide) ?_
  refine o_iadd dL_law_1037 rfl ?_
  refine o_scr (j := 6 * k + 1) hX dL_law_1038 rfl (nI_add (6 * k) 1) (by omega) hN ?_
  refine o_aload_nR dL_law_1039 rfl rfl (by rfl) ?_
  refine o_iload_n dL_law_1040 rfl rfl (by rfl) ?_
  refine o_iconst (v := 2) dL_law_1041 rfl (by decide) ?_
  refine o_iadd dL_law_1042 rfl ?_
  refine o_scr (j := 6 * k + 2) hX dL_law_1043 rfl (nI_add (6 * k) 2) (by omega) hN ?_
  refine o_aload_nR dL_law_1044 rfl rfl (by rfl) ?_
  refine o_iload_n dL_law_1045 rfl rfl (by rfl) ?_
  refine o_iconst (v := 3) dL_law_1046 rfl (by decide) ?_
  refine o_iadd dL_law_1047 rfl ?_
  refine o_scr (j := 6 * k + 3) hX dL_law_1048 rfl (nI_add (6 * k) 3) (by omega) hN ?_
  refine o_aload_nR dL_law_1049 rfl rfl (by rfl) ?_
  refine o_iload_n dL_law_1050 rfl rfl (by rfl) ?_
  refine o_iconst (v := 4) dL_law_1051 rfl (by decide) ?_
  refine o_iadd dL_law_1052 rfl ?_
  refine o_scr (j := 6 * k + 4) hX dL_law_1053 rfl (nI_add (6 * k) 4) (by omega) hN ?_
  refine o_callV cs_X8_film cv_L_131 (q_film _ h _ _ _ _) hr (Nat.le_of_ble_eq_true rfl) dL_law_1054 rfl (by decide) (by rfl) (by rfl) (by rfl) rfl rfl (Nat.le_of_ble_eq_true rfl) (fun rA mA hC => ?_)
  refine o_aload_n dL_law_1057 rfl rfl (by rfl) ?_
  refine o_aload_nR dL_law_1058 rfl rfl (by rfl) ?_
  refine o_iload_n dL_law_1059 rfl rfl (by rfl) ?_
  refine o_iconst (v := 1) dL_law_1060 rfl (by decide) ?_
  refine o_iadd dL_law_1061 rfl ?_
  refine o_scr (j := 6 * k + 1) hX dL_law_1062 rfl (nI_add (6 * k) 1) (by omega) hN ?_
  refine o_aload_nR dL_law_1063 rfl rfl (by rfl) ?_
  refine o_iload_n dL_law_1064 rfl rfl (by rfl) ?_
  refine o_iconst (v := 2) dL_law_1065 rfl (by decide) ?_
  refine o_iadd dL_law_1066 rfl ?_
  refine o_scr (j := 6 * k + 2) hX dL_law_1067 rfl (nI_add (6 * k) 2) (by omega) hN ?_
  refine o_aload_nR dL_law_1068 rfl rfl (by rfl) ?_
  refine o_iload_n dL_law_1069 rfl rfl (by rfl) ?_
  refine o_iconst (v := 3) dL_law_1070 rfl (by decide) ?_
  refine o_iadd dL_law_1071 rfl ?_
  refine o_scr (j := 6 * k + 3) hX dL_law_1072 rfl (nI_add (6 * k) 3) (by omega) hN ?_
  refine o_aload_nR dL_law_1073 rfl rfl (by rfl) ?_
  refine o_iload_n dL_law_1074 rfl rfl (by rfl) ?_
  refine o_iconst (v := 4) dL_law_1075 rfl (by decide) ?_
  refine o_iadd dL_law_1076 rfl ?_
  refine o_scr (j := 6 * k + 4) hX dL_law_1077 rfl (nI_add (6 * k) 4) (by omega) hN ?_
  refine o_callV cs_X9_film cv_L_134 (hC) hr (Nat.le_of_ble_eq_true rfl) dL_law_1078 rfl (by decide) (by rfl) (by rfl) (by rfl) rfl rfl (Nat.le_of_ble_eq_true rfl) (fun rB mB hR => ?_)
  refine o_icmp_eq (tgt := 1268) dL_law_1081 (by decide) rfl (fun (c1081 : rA = rB) => ?_) (fun (c1081 : ¬ rA = rB) => ?_)
  · skip
    exact J _ hR.2
  · skip
    exact absurd hR.1.symm c1081
set_option maxHeartbeats 4000000 in
set_option maxRecDepth 100000 in
theorem law_sheet {X : CX} {g : GX} {b N k : Nat} {zs : Nat → Int32} {mu : Mu} (hr : RM X 9) (hX : SCR X g b N zs) (hk : 6 * k + 6 ≤ N) (hN : N ≤ 3072) (h : Rel mu) (J : ∀ m : Mu, Rel m → WA X g RL 4 cL_law 1268 [(0, vR b), (1, vC 0), (2, vC 94), (3, vI (nI (6 * k)))] [] m) : WA X g RL 4 cL_law 1086 [(0, vR b), (1, vC 0), (2, vC 94), (3, vI (nI (6 * k)))] [] mu := by
  refine o_aload_n dL_law_1086 rfl rfl (by rfl) ?_
  refine o_aload_nR dL_law_1087 rfl rfl (by rfl) ?_
  refine o_iload_n dL_law_1088 rfl rfl (by rfl) ?_
  refine o_iconst (v := 1) dL_law_1089 rfl (by decide) ?_
  refine o_iadd dL_law_1090 rfl ?_
  refine o_scr (j := 6 * k + 1) hX dL_law_1091 rfl (nI_add (6 * k) 1) (by omega) hN ?_
  refine o_aload_nR dL_law_1092 rfl rfl (by rfl) ?_
  refine o_iload_n dL_law_1093 rfl rfl (by rfl) ?_
  refine o_iconst (v := 2) dL_law_1094 rfl (by decide) ?_
  refine o_iadd dL_law_1095 rfl ?_
  refine o_scr (j := 6 * k + 2) hX dL_law_1096 rfl (nI_add (6 * k) 2) (by omega) hN ?_
  refine o_aload_nR dL_law_1097 rfl rfl (by rfl) ?_
  refine o_iload_n dL_law_1098 rfl rfl (by rfl) ?_
  refine o_iconst (v := 3) dL_law_1099 rfl (by decide) ?_
  refine o_iadd dL_law_1100 rfl ?_
  refine o_scr (j := 6 * k + 3) hX dL_law_1101 rfl (nI_add (6 * k) 3) (by omega) hN ?_
  refine o_callV cs_X8_sheet cv_L_135 (q_sheet _ h _ _ _) hr (Nat.le_of_ble_eq_true rfl) dL_law_1102 rfl (by decide) (by rfl) (by rfl) (by rfl) rfl rfl (Nat.le_of_ble_eq_true rfl) (fun rA mA hC => ?_)
  refine o_aload_n dL_law_1105 rfl rfl (by rfl) ?_
  refine o_aload_nR dL_law_1106 rfl rfl (by rfl) ?_
  refine o_iload_n dL_law_1107 rfl rfl (by rfl) ?_
  refine o_iconst (v := 1) dL_law_1108 rfl (by decide) ?_
  refine o_iadd dL_law_1109 rfl ?_
  refine o_scr (j := 6 * k + 1) hX dL_law_1110 rfl (nI_add (6 * k) 1) (by omega) hN ?_
  refine o_aload_nR dL_law_1111 rfl rfl (by rfl) ?_
  refine o_iload_n dL_law_1112 rfl rfl (by rfl) ?_
  refine o_iconst (v := 2) dL_law_1113 rfl (by decide) ?_
  refine o_iadd dL_law_1114 rfl ?_
  refine o_scr (j := 6 * k + 2) hX dL_law_1115 rfl (nI_add (6 * k) 2) (by omega) hN ?_
  refine o_aload_nR dL_law_1116 rfl rfl (by rfl) ?_
  refine o_iload_n dL_law_1117 rfl rfl (by rfl) ?_
  refine o_iconst (v := 3) dL_law_1118 rfl (by decide) ?_
  refine o_iadd dL_law_1119 rfl ?_
  refine o_scr (j := 6 * k + 3) hX dL_law_1120 rfl (nI_add (6 * k) 3) (by omega) hN ?_
  refine o_callV cs_X9_sheet cv_L_138 (hC) hr (Nat.le_of_ble_eq_true rfl) dL_law_1121 rfl (by decide) (by rfl) (by rfl) (by rfl) rfl rfl (Nat.le_of_ble_eq_true rfl) (fun rB mB hR => ?_)
  refine o_icmp_eq (tgt := 1268) dL_law_1124 (by decide) rfl (fun (c1124 : rA = rB) => ?_) (fun (c1124 : ¬ rA = rB) => ?_)
  · skip
    exact J _ hR.2
  · skip
    exact absurd hR.1.symm c1124
set_option maxHeartbeats 4000000 in
set_option maxRecDepth 100000 in
theorem law_drop {X : CX} {g : GX} {b N k : Nat} {zs : Nat → Int32} {mu : Mu} (hr : RM X 9) (hX : SCR X g b N zs) (hk : 6 * k + 6 ≤ N) (hN : N ≤ 3072) (h : Rel mu) (J : ∀ m : Mu, Rel m → WA X g RL 4 cL_law 1268 [(0, vR b), (1, vC 0), (2, vC 94), (3, vI (nI (6 * k)))] [] m) : WA X g RL 4 cL_law 1129 [(0, vR b), (1, vC 0), (2, vC 94), (3, vI (nI (6 * k)))] [] mu := by
  refine o_aload_n dL_law_1129 rfl rfl (by rfl) ?_
  refine o_aload_nR dL_law_1130 rfl rfl (by rfl) ?_
  refine o_iload_n dL_law_1131 rfl rfl (by rfl) ?_
  refine o_iconst (v := 1) dL_law_1132 rfl (by decide) ?_
  refine o_iadd dL_law_1133 rfl ?_
  refine o_scr (j := 6 * k + 1) hX dL_law_1134 rfl (nI_add (6 * k) 1) (by omega) hN ?_
  refine o_callV cs_X8_drop cv_L_139 (q_drop _ h _) hr (Nat.le_of_ble_eq_true rfl) dL_law_1135 rfl (by decide) (by rfl) (by rfl) (by rfl) rfl rfl (Nat.le_of_ble_eq_true rfl) (fun rA mA hC => ?_)
  refine o_aload_n dL_law_1138 rfl rfl (by rfl) ?_
  refine o_aload_nR dL_law_1139 rfl rfl (by rfl) ?_
  refine o_iload_n dL_law_1140 rfl rfl (by rfl) ?_
  refine o_iconst (v := 1) dL_law_1141 rfl (by decide) ?_
  refine o_iadd dL_law_1142 rfl ?_
  refine o_scr (j := 6 * k + 1) hX dL_law_1143 rfl (nI_add (6 * k) 1) (by omega) hN ?_
  refine o_callV cs_X9_drop cv_L_142 (hC) hr (Nat.le_of_ble_eq_true rfl) dL_law_1144 rfl (by decide) (by rfl) (by rfl) (by rfl) rfl rfl (Nat.le_of_ble_eq_true rfl) (fun rB mB hR => ?_)
  refine o_icmp_eq (tgt := 1268) dL_law_1147 (by decide) rfl (fun (c1147 : rA = rB) => ?_) (fun (c1147 : ¬ rA = rB) => ?_)
  · skip
    exact J _ hR.2
  · skip
    exact absurd hR.1.symm c1147
set_option maxHeartbeats 4000000 in
set_option maxRecDepth 100000 in
theorem law_item {X : CX} {g : GX} {b N k : Nat} {zs : Nat → Int32} {mu : Mu} (hr : RM X 9) (hX : SCR X g b N zs) (hk : 6 * k + 6 ≤ N) (hN : N ≤ 3072) (h : Rel mu) (J : ∀ m : Mu, Rel m → WA X g RL 4 cL_law 1268 [(0, vR b), (1, vC 0), (2, vC 94), (3, vI (nI (6 * k)))] [] m) : WA X g RL 4 cL_law 1152 [(0, vR b), (1, vC 0), (2, vC 94), (3, vI (nI (6 * k)))] [] mu := by
  refine o_aload_n dL_law_1152 rfl rfl (by rfl) ?_
  refine o_aload_nR dL_law_1153 rfl rfl (by rfl) ?_
  refine o_iload_n dL_law_1154 rfl rfl (by rfl) ?_
  refine o_iconst (v := 1) dL_law_1155 rfl (by decide) ?_
  refine o_iadd dL_law_1156 rfl ?_
  refine o_scr (j := 6 * k + 1) hX dL_law_1157 rfl (nI_add (6 * k) 1) (by omega) hN ?_
  refine o_aload_nR dL_law_1158 rfl rfl (by rfl) ?_
  refine o_iload_n dL_law_1159 rfl rfl (by rfl) ?_
  refine o_iconst (v := 2) dL_law_1160 rfl (by decide) ?_
  refine o_iadd dL_law_1161 rfl ?_
  refine o_scr (j := 6 * k + 2) hX dL_law_1162 rfl (nI_add (6 * k) 2) (by omega) hN ?_
  refine o_aload_nR dL_law_1163 rfl rfl (by rfl) ?_
  refine o_iload_n dL_law_1164 rfl rfl (by rfl) ?_
  refine o_iconst (v := 3) dL_law_1165 rfl (by decide) ?_
  refine o_iadd dL_law_1166 rfl ?_
  refine o_scr (j := 6 * k + 3) hX dL_law_1167 rfl (nI_add (6 * k) 3) (by omega) hN ?_
  refine o_aload_nR dL_law_1168 rfl rfl (by rfl) ?_
  refine o_iload_n dL_law_1169 rfl rfl (by rfl) ?_
  refine o_iconst (v := 4) dL_law_1170 rfl (by decide) ?_
  refine o_iadd dL_law_1171 rfl ?_
  refine o_scr (j := 6 * k + 4) hX dL_law_1172 rfl (nI_add (6 * k) 4) (by omega) hN ?_
  refine o_callV cs_X8_item cv_L_143 (q_item _ h _ _ _ _) hr (Nat.le_of_ble_eq_true rfl) dL_law_1173 rfl (by decide) (by rfl) (by rfl) (by rfl) rfl rfl (Nat.le_of_ble_eq_true rfl) (fun rA mA hC => ?_)
  refine o_aload_n dL_law_1176 rfl rfl (by rfl) ?_
  refine o_aload_nR dL_law_1177 rfl rfl (by rfl) ?_
  refine o_iload_n dL_law_1178 rfl rfl (by rfl) ?_
  refine o_iconst (v := 1) dL_law_1179 rfl (by decide) ?_
  refine o_iadd dL_law_1180 rfl ?_
  refine o_scr (j := 6 * k + 1) hX dL_law_1181 rfl (nI_add (6 * k) 1) (by omega) hN ?_
  refine o_aload_nR dL_law_1182 rfl rfl (by rfl) ?_
  refine o_iload_n dL_law_1183 rfl rfl (by rfl) ?_
  refine o_iconst (v := 2) dL_law_1184 rfl (by decide) ?_
  refine o_iadd dL_law_1185 rfl ?_
  refine o_scr (j := 6 * k + 2) hX dL_law_1186 rfl (nI_add (6 * k) 2) (by omega) hN ?_
  refine o_aload_nR dL_law_1187 rfl rfl (by rfl) ?_
  refine o_iload_n dL_law_1188 rfl rfl (by rfl) ?_
  refine o_iconst (v := 3) dL_law_1189 rfl (by decide) ?_
  refine o_iadd dL_law_1190 rfl ?_
  refine o_scr (j := 6 * k + 3) hX dL_law_1191 rfl (nI_add (6 * k) 3) (by omega) hN ?_
  refine o_aload_nR dL_law_1192 rfl rfl (by rfl) ?_
  refine o_iload_n dL_law_1193 rfl rfl (by rfl) ?_
  refine o_iconst (v := 4) dL_law_1194 rfl (by decide) ?_
  refine o_iadd dL_law_1195 rfl ?_
  refine o_scr (j := 6 * k + 4) hX dL_law_1196 rfl (nI_add (6 * k) 4) (by omega) hN ?_
  refine o_callV cs_X9_item cv_L_146 (hC) hr (Nat.le_of_ble_eq_true rfl) dL_law_1197 rfl (by decide) (by rfl) (by rfl) (by rfl) rfl rfl (Nat.le_of_ble_eq_true rfl) (fun rB mB hR => ?_)
  refine o_icmp_eq (tgt := 1268) dL_law_1200 (by decide) rfl (fun (c1200 : rA = rB) => ?_) (fun (c1200 : ¬ rA = rB) => ?_)
  · skip
    exact J _ hR.2
  · skip
    exact absurd hR.1.symm c1200
set_option maxHeartbeats 4000000 in
set_option maxRecDepth 100000 in
theorem law_copy {X : CX} {g : GX} {b N k : Nat} {zs : Nat → Int32} {mu : Mu} (hr : RM X 9) (hX : SCR X g b N zs) (hk : 6 * k + 6 ≤ N) (hN : N ≤ 3072) (h : Rel mu) (J : ∀ m : Mu, Rel m → WA X g RL 4 cL_law 1268 [(0, vR b), (1, vC 0), (2, vC 94), (3, vI (nI (6 * k)))] [] m) : WA X g RL 4 cL_law 1205 [(0, vR b), (1, vC 0), (2, vC 94), (3, vI (nI (6 * k)))] [] mu := by
  refine o_aload_n dL_law_1205 rfl rfl (by rfl) ?_
  refine o_aload_nR dL_law_1206 rfl rfl (by rfl) ?_
  refine o_iload_n dL_law_1207 rfl rfl (by rfl) ?_
  refine o_iconst (v := 1) dL_law_1208 rfl (by decide) ?_
  refine o_iadd dL_law_1209 rfl ?_
  refine o_scr (j := 6 * k + 1) hX dL_law_1210 rfl (nI_add (6 * k) 1) (by omega) hN ?_
  refine o_aload_nR dL_law_1211 rfl rfl (by rfl) ?_
  refine o_iload_n dL_law_1212 rfl rfl (by rfl) ?_
  refine o_iconst (v := 2) dL_law_1213 rfl (by decide) ?_
  refine o_iadd dL_law_1214 rfl ?_
  refine o_scr (j := 6 * k + 2) hX dL_law_1215 rfl (nI_add (6 * k) 2) (by omega) hN ?_
  refine o_aload_nR dL_law_1216 rfl rfl (by rfl) ?_
  refine o_iload_n dL_law_1217 rfl rfl (by rfl) ?_
  refine o_iconst (v := 3) dL_law_1218 rfl (by decide) ?_
  refine o_iadd dL_law_1219 rfl ?_
  refine o_scr (j := 6 * k + 3) hX dL_law_1220 rfl (nI_add (6 * k) 3) (by omega) hN ?_
  refine o_aload_nR dL_law_1221 rfl rfl (by rfl) ?_
  refine o_iload_n dL_law_1222 rfl rfl (by rfl) ?_
  refine o_iconst (v := 4) dL_law_1223 rfl (by decide) ?_
  refine o_iadd dL_law_1224 rfl ?_
  refine o_scr (j := 6 * k + 4) hX dL_law_1225 rfl (nI_add (6 * k) 4) (by omega) hN ?_
  refine o_aload_nR dL_law_1226 rfl rfl (by rfl) ?_
  refine o_iload_n dL_law_1227 rfl rfl (by rfl) ?_
  refine o_iconst (v := 5) dL_law_1228 rfl (by decide) ?_
  refine o_iadd dL_law_1229 rfl ?_
  refine o_scr (j := 6 * k + 5) hX dL_law_1230 rfl (nI_add (6 * k) 5) (by omega) hN ?_
  refine o_callV cs_X8_copy cv_L_147 (q_copy _ h _ _ _ _ _) hr (Nat.le_of_ble_eq_true rfl) dL_law_1231 rfl (by decide) (by rfl) (by rfl) (by rfl) rfl rfl (Nat.le_of_ble_eq_true rfl) (fun rA mA hC => ?_)
  refine o_aload_n dL_law_1234 rfl rfl (by rfl) ?_
  refine o_aload_nR dL_law_1235 rfl rfl (by rfl) ?_
  refine o_iload_n dL_law_1236 rfl rfl (by rfl) ?_
  refine o_iconst (v := 1) dL_law_1237 rfl (by decide) ?_
  refine o_iadd dL_law_1238 rfl ?_
  refine o_scr (j := 6 * k + 1) hX dL_law_1239 rfl (nI_add (6 * k) 1) (by omega) hN ?_
  refine o_aload_nR dL_law_1240 rfl rfl (by rfl) ?_
  refine o_iload_n dL_law_1241 rfl rfl (by rfl) ?_
  refine o_iconst (v := 2) dL_law_1242 rfl (by decide) ?_
  refine o_iadd dL_law_1243 rfl ?_
  refine o_scr (j := 6 * k + 2) hX dL_law_1244 rfl (nI_add (6 * k) 2) (by omega) hN ?_
  refine o_aload_nR dL_law_1245 rfl rfl (by rfl) ?_
  refine o_iload_n dL_law_1246 rfl rfl (by rfl) ?_
  refine o_iconst (v := 3) dL_law_1247 rfl (by decide) ?_
  refine o_iadd dL_law_1248 rfl ?_
  refine o_scr (j := 6 * k + 3) hX dL_law_1249 rfl (nI_add (6 * k) 3) (by omega) hN ?_
  refine o_aload_nR dL_law_1250 rfl rfl (by rfl) ?_
  refine o_iload_n dL_law_1251 rfl rfl (by rfl) ?_
  refine o_iconst (v := 4) dL_law_1252 rfl (by decide) ?_
  refine o_iadd dL_law_1253 rfl ?_
  refine o_scr (j := 6 * k + 4) hX dL_law_1254 rfl (nI_add (6 * k) 4) (by omega) hN ?_
  refine o_aload_nR dL_law_1255 rfl rfl (by rfl) ?_
  refine o_iload_n dL_law_1256 rfl rfl (by rfl) ?_
  refine o_iconst (v := 5) dL_law_1257 rfl (by decide) ?_
  refine o_iadd dL_law_1258 rfl ?_
  refine o_scr (j := 6 * k + 5) hX dL_law_1259 rfl (nI_add (6 * k) 5) (by omega) hN ?_
  refine o_callV cs_X9_copy cv_L_150 (hC) hr (Nat.le_of_ble_eq_true rfl) dL_law_1260 rfl (by decide) (by rfl) (by rfl) (by rfl) rfl rfl (Nat.le_of_ble_eq_true rfl) (fun rB mB hR => ?_)
  refine o_icmp_eq (tgt := 1268) dL_law_1263 (by decide) rfl (fun (c1263 : rA = rB) => ?_) (fun (c1263 : ¬ rA = rB) => ?_)
  · skip
    exact J _ hR.2
  · skip
    exact absurd hR.1.symm c1263
