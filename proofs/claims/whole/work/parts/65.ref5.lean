/-! ===== the reference: tries ===== -/
theorem TRQ.beg {mu m : Mu} {a : TA} {nc np : Nat} (hA : TOKA mu a nc np) (h0 : ∀ q, q ≠ 94 → q ≠ 102 → q ≠ 103 → m q = mu q) (h1 : ∀ i, i < 100 → m 102 i = hU mu a.2.1 a.2.2.1 i ∧ m 103 i = hV mu a.2.1 a.2.2.1 i) (h2 : ∀ j, j < 18 ∨ 30 < j → m 94 j = mu 94 j)
    (e22 : m 94 22 = 0) (e23 : m 94 23 = -a.1) (e24 : m 94 24 = 0) (e25 : m 94 25 = 0) (e26 : m 94 26 = 0) (e27 : m 94 27 = 0) (e28 : m 94 28 = 0) (e29 : m 94 29 = 0) (e30 : m 94 30 = 1) (e18 : m 94 18 = -4) (e19 : m 94 19 = -4) (e20 : m 94 20 = 0) (e21 : m 94 21 = 0) : TRQ mu m a 0 0 :=
  ⟨⟨fun q q1 q2 q3 q4 => h0 q q1 q3 q4, h2⟩, ⟨s0 a.1, fun _ _ => rfl, ⟨⟨e22.symm, e23.symm, e24.symm, e25.symm, e26.symm, e27.symm, e28.symm, e29.symm, e30.symm, e20.symm, e21.symm⟩, Or.inl ⟨rfl, e18, e19⟩⟩⟩, Or.inl ⟨rfl, e18⟩, fun k _ hk => (h1 k hk).1, fun k hk => (h1 k hk).2, fun k hk => by omega⟩
theorem side0 {mu : Mu} {a : TA} {s : Vc} (h : a.2.2.2.2.1 = -1 ∨ s 12 < a.2.2.2.2.2 ∨ ¬ s 8 = 0) : sSide (mkE mu a.1 a.2.2.2.1 a.2.2.2.2.1 a.2.2.2.2.2) (cupD mu) s = 0 := if_pos h
theorem side1 {mu : Mu} {a : TA} {s : Vc} (h : ¬ (a.2.2.2.2.1 = -1 ∨ s 12 < a.2.2.2.2.2 ∨ ¬ s 8 = 0)) : sSide (mkE mu a.1 a.2.2.2.1 a.2.2.2.2.1 a.2.2.2.2.2) (cupD mu) s = cmp3 (s 0 - s 6) (cupD mu (a.2.2.2.2.1).toNatClampNeg 0) := if_neg h
theorem JS.no {mu m : Mu} {a : TA} {s : Vc} {n : Nat} (h : sSide (mkE mu a.1 a.2.2.2.1 a.2.2.2.2.1 a.2.2.2.2.2) (cupD mu) s = 0) (hu : m 102 n = hU mu a.2.1 a.2.2.1 n) : JS mu m m a s n := ⟨fun _ _ => rfl, fun _ _ => rfl, by rw [h, Int32.zero_add]; exact hu⟩
theorem JS.yes {mu m : Mu} {a : TA} {s : Vc} {n : Nat} {d : Int32} (h : sSide (mkE mu a.1 a.2.2.2.1 a.2.2.2.2.1 a.2.2.2.2.2) (cupD mu) s = d) (hu : m 102 n = hU mu a.2.1 a.2.2.1 n) : JS mu m (upF m 102 n (m 102 n + d)) a s n := ⟨fun q hq => upF_k hq, fun k hk => upF_i hk, by rw [upF_s, h, hu, Int32.add_comm]⟩
theorem cmp_off {x c : Int32} (hx : -60 ≤ x.toInt ∧ x.toInt ≤ 60) (hc : rg c (-9) 9) : ((0 : Int32) < x - c → cmp3 x c = 1) ∧ (x - c < 0 → cmp3 x c = -1) ∧ (¬ (0 : Int32) < x - c → ¬ x - c < 0 → cmp3 x c = 0) := by
  obtain ⟨c1, c2⟩ := hc
  have e : (x - c).toInt = x.toInt - c.toInt := i_sub (by omega) (by omega)
  have e0 : (0 : Int32).toInt = 0 := rfl
  have a1 : x < c ↔ x.toInt < c.toInt := i_lt x c
  have a2 : x = c ↔ x.toInt = c.toInt := i_eq x c
  have a3 : (0 : Int32) < x - c ↔ 0 < x.toInt - c.toInt := by rw [i_lt, e, e0]
  have a4 : x - c < 0 ↔ x.toInt - c.toInt < 0 := by rw [i_lt, e, e0]
  unfold cmp3
  refine ⟨fun h => ?_, fun h => ?_, fun h1 h2 => ?_⟩
  · have := a3.mp h
    rw [if_neg (fun q => by have := a1.mp q; omega), if_neg (fun q => by have := a2.mp q; omega)]
  · have := a4.mp h
    rw [if_pos (a1.mpr (by omega))]
  · have h3 : ¬ 0 < x.toInt - c.toInt := fun q => h1 (a3.mpr q)
    have h4 : ¬ x.toInt - c.toInt < 0 := fun q => h2 (a4.mpr q)
    rw [if_neg (fun q => by have := a1.mp q; omega), if_pos (a2.mpr (by omega))]
theorem TOKA.cup {mu : Mu} {a : TA} {nc np i : Nat} (hA : TOKA mu a nc np) (hi : i < nc) : rg (mu (5 + i) 0) (-9) 9 ∧ cupD mu i 0 = mu (5 + i) 0 := by
  have h4 := hA.2.1.2.1.2.2.1
  obtain ⟨-, ⟨z, h1, h2, h3, h5⟩, -⟩ := hA.1
  have e : z = nc := (nI_eq (by omega) (by omega)).mp (h3.symm.trans hA.2.1.2.1.1)
  subst e
  exact ⟨(h5 i hi).1, if_pos (show i < 4 by omega)⟩
theorem TOKA.cupD {mu : Mu} {a : TA} {nc np : Nat} (hA : TOKA mu a nc np) : ∀ i, i < nc → ∀ j, j < 5 → mu 96 (5 * i + j) = cupD mu i j := fun i hi j hj => by
  rw [hA.2.1.2.1.2.2.2 i hi j hj]
  exact (if_pos (show i < 4 by have := hA.2.1.2.1.2.2.1; omega)).symm
set_option maxHeartbeats 4000000 in
set_option maxRecDepth 100000 in
theorem c_X9_tries (mu : Mu) (a : TA) (nc np : Nat) (hA : TOKA mu a nc np) : ConV yX9_tries cX9_tries 5 2 [vC 94] mu (fun mu2 => (∃ e, TRQ mu mu2 a e 100) ∧ RWS mu mu2 a 100) := by
  refine conV_of (own := RX9) (by decide) rfl (Nat.le_of_ble_eq_true rfl) (fun X g hq => ?_)
  show WA X g RX9 5 cX9_tries 0 [(0, vC 94)] [] mu
  refine o_aload_n dX9_tries_0 rfl rfl (by rfl) ?_
  refine o_callVV cs_X9_lays cv_X9_209 (c_X9_lays mu hA.1 a.1 a.2.1 a.2.2.1 nc np hA.2.1) hq.2.2.2 (Nat.le_of_ble_eq_true rfl) dX9_tries_1 rfl (by decide) (by rfl) (by rfl) (by rfl) rfl rfl (Nat.le_of_ble_eq_true rfl) (fun mY hY => ?_)
  refine o_aload_n dX9_tries_4 rfl rfl (by rfl) ?_
  refine o_iconst (v := 0) dX9_tries_5 rfl (by decide) ?_
  refine o_put cl_X9_160 cp_X9_22 dX9_tries_6 rfl (by decide) (by rfl) (by rfl) fitI ?_
  refine o_aload_n dX9_tries_9 rfl rfl (by rfl) ?_
  refine o_aload_n dX9_tries_10 rfl rfl (by rfl) ?_
  refine o_getC (q := 95) cl_X9_7 dX9_tries_11 rfl (by decide) (by rfl) (by rfl) ?_
  refine o_iconst (v := 0) dX9_tries_14 rfl (by decide) ?_
  refine o_iald dX9_tries_15 rfl (by decide) (by rfl) (by rfl) (vp_in_nI (n := 0) (by decide) (by decide)) ?_
  refine o_ineg dX9_tries_16 rfl ?_
  refine o_put cl_X9_166 cp_X9_23 dX9_tries_17 rfl (by decide) (by rfl) (by rfl) fitI ?_
  refine o_aload_n dX9_tries_20 rfl rfl (by rfl) ?_
  refine o_iconst (v := 0) dX9_tries_21 rfl (by decide) ?_
  refine o_put cl_X9_179 cp_X9_24 dX9_tries_22 rfl (by decide) (by rfl) (by rfl) fitI ?_
  refine o_aload_n dX9_tries_25 rfl rfl (by rfl) ?_
  refine o_iconst (v := 0) dX9_tries_26 rfl (by decide) ?_
  refine o_put cl_X9_182 cp_X9_25 dX9_tries_27 rfl (by decide) (by rfl) (by rfl) fitI ?_
  refine o_aload_n dX9_tries_30 rfl rfl (by rfl) ?_
  refine o_iconst (v := 0) dX9_tries_31 rfl (by decide) ?_
  refine o_put cl_X9_185 cp_X9_26 dX9_tries_32 rfl (by decide) (by rfl) (by rfl) fitI ?_
  refine o_aload_n dX9_tries_35 rfl rfl (by rfl) ?_
  refine o_iconst (v := 0) dX9_tries_36 rfl (by decide) ?_
  refine o_put cl_X9_188 cp_X9_27 dX9_tries_37 rfl (by decide) (by rfl) (by rfl) fitI ?_
  refine o_aload_n dX9_tries_40 rfl rfl (by rfl) ?_
  refine o_iconst (v := 0) dX9_tries_41 rfl (by decide) ?_
  refine o_put cl_X9_163 cp_X9_28 dX9_tries_42 rfl (by decide) (by rfl) (by rfl) fitI ?_
  refine o_aload_n dX9_tries_45 rfl rfl (by rfl) ?_
  refine o_iconst (v := 0) dX9_tries_46 rfl (by decide) ?_
  refine o_put cl_X9_169 cp_X9_29 dX9_tries_47 rfl (by decide) (by rfl) (by rfl) fitI ?_
  refine o_aload_n dX9_tries_50 rfl rfl (by rfl) ?_
  refine o_iconst (v := 1) dX9_tries_51 rfl (by decide) ?_
  refine o_put cl_X9_172 cp_X9_30 dX9_tries_52 rfl (by decide) (by rfl) (by rfl) fitI ?_
  refine o_aload_n dX9_tries_55 rfl rfl (by rfl) ?_
  refine o_bipush (v := (-4)) dX9_tries_56 rfl (by decide) ?_
  refine o_put cl_X9_200 cp_X9_18 dX9_tries_58 rfl (by decide) (by rfl) (by rfl) fitI ?_
  refine o_aload_n dX9_tries_61 rfl rfl (by rfl) ?_
  refine o_bipush (v := (-4)) dX9_tries_62 rfl (by decide) ?_
  refine o_put cl_X9_203 cp_X9_19 dX9_tries_64 rfl (by decide) (by rfl) (by rfl) fitI ?_
  refine o_aload_n dX9_tries_67 rfl rfl (by rfl) ?_
  refine o_iconst (v := 0) dX9_tries_68 rfl (by decide) ?_
  refine o_put cl_X9_206 cp_X9_20 dX9_tries_69 rfl (by decide) (by rfl) (by rfl) fitI ?_
  refine o_aload_n dX9_tries_72 rfl rfl (by rfl) ?_
  refine o_iconst (v := 0) dX9_tries_73 rfl (by decide) ?_
  refine o_put cl_X9_191 cp_X9_21 dX9_tries_74 rfl (by decide) (by rfl) (by rfl) fitI ?_
  refine o_iconst (v := 0) dX9_tries_77 rfl (by decide) ?_
  refine o_istore_n (L' := [(0, vC 94), (1, vI 0)]) dX9_tries_78 rfl rfl (by decide) (by rfl) (by rfl) ?_
  refine o_iconst (v := 0) dX9_tries_79 rfl (by decide) ?_
  refine o_istore_n (L' := [(0, vC 94), (1, vI 0), (2, vI 0)]) dX9_tries_80 rfl rfl (by decide) (by rfl) (by rfl) ?_
  have LP81 : ∀ (nLP81 : Nat) (n : Nat) (e : Int32) (m : Mu) , (n ≤ 100) → (TRQ mu m a e n) → (RWS mu m a n) → (100 < n + nLP81) → WA X g RX9 5 cX9_tries 81 [(0, vC 94), (1, vI e), (2, vI (nI n))] [] m := by
    intro nLP81
    induction nLP81 with
    | zero =>
      intro n e m hn hT hR hm
      exact absurd hm (by omega)
    | succ nLP81 ihLP81 =>
      intro n e m hn hT hR hm
      refine o_iload_n dX9_tries_81 rfl rfl (by rfl) ?_
      refine o_bipush (v := 100) dX9_tries_82 rfl (by decide) ?_
      refine o_icmp_ge (tgt := 410) dX9_tries_84 (by decide) rfl (fun (c84 : 100 ≤ (nI n)) => ?_) (fun (c84 : ¬ 100 ≤ (nI n)) => ?_)
      · skip
        have hn2 := nI_dec2 (b := 100) c84 (by omega) (by decide)
        have e100 : n = 100 := by omega
        subst e100
        exact o_vret hq dX9_tries_410 ⟨⟨e, hT⟩, hR⟩
      · skip
        have hn2 := nI_dec (b := 100) c84 (by omega) (by decide)
        have J268 : ∀ (e2 : Int32) (m5 : Mu), (TRQ mu m5 a e2 (n + 1)) → (m5 101 = m 101) → WA X g RX9 5 cX9_tries 268 [(0, vC 94), (1, vI e2), (2, vI (nI n))] [] m5 := by
          intro e2 m5 hT2 h101
          refine o_aload_n dX9_tries_268 rfl rfl (by rfl) ?_
          refine o_getC (q := 101) cl_X9_28 dX9_tries_269 rfl (by decide) (by rfl) (by rfl) ?_
          refine o_bipush (v := 9) dX9_tries_272 rfl (by decide) ?_
          refine o_iload_n dX9_tries_274 rfl rfl (by rfl) ?_
          refine o_imul dX9_tries_275 rfl ?_
          refine o_aload_n dX9_tries_276 rfl rfl (by rfl) ?_
          refine o_getI cl_X9_160 dX9_tries_277 rfl (by decide) (by rfl) (by rfl) ?_
          refine o_iast dX9_tries_280 rfl (by decide) (by rfl) (by rfl) (ixc (a := 9) (by omega) (by decide)) ?_
          refine o_aload_n dX9_tries_281 rfl rfl (by rfl) ?_
          refine o_getC (q := 101) cl_X9_28 dX9_tries_282 rfl (by decide) (by rfl) (by rfl) ?_
          refine o_bipush (v := 9) dX9_tries_285 rfl (by decide) ?_
          refine o_iload_n dX9_tries_287 rfl rfl (by rfl) ?_
          refine o_imul dX9_tries_288 rfl ?_
          refine o_iconst (v := 1) dX9_tries_289 rfl (by decide) ?_
          refine o_iadd dX9_tries_290 rfl ?_
          refine o_aload_n dX9_tries_291 rfl rfl (by rfl) ?_
          refine o_getI cl_X9_166 dX9_tries_292 rfl (by decide) (by rfl) (by rfl) ?_
          refine o_iast dX9_tries_295 rfl (by decide) (by rfl) (by rfl) (ixb (a := 9) (t := 1) (by omega) (by decide)) ?_
          refine o_aload_n dX9_tries_296 rfl rfl (by rfl) ?_
          refine o_getC (q := 101) cl_X9_28 dX9_tries_297 rfl (by decide) (by rfl) (by rfl) ?_
          refine o_bipush (v := 9) dX9_tries_300 rfl (by decide) ?_
          refine o_iload_n dX9_tries_302 rfl rfl (by rfl) ?_
          refine o_imul dX9_tries_303 rfl ?_
          refine o_iconst (v := 2) dX9_tries_304 rfl (by decide) ?_
          refine o_iadd dX9_tries_305 rfl ?_
          refine o_aload_n dX9_tries_306 rfl rfl (by rfl) ?_
          refine o_getI cl_X9_179 dX9_tries_307 rfl (by decide) (by rfl) (by rfl) ?_
          refine o_iast dX9_tries_310 rfl (by decide) (by rfl) (by rfl) (ixb (a := 9) (t := 2) (by omega) (by decide)) ?_
          refine o_aload_n dX9_tries_311 rfl rfl (by rfl) ?_
          refine o_getC (q := 101) cl_X9_28 dX9_tries_312 rfl (by decide) (by rfl) (by rfl) ?_
          refine o_bipush (v := 9) dX9_tries_315 rfl (by decide) ?_
          refine o_iload_n dX9_tries_317 rfl rfl (by rfl) ?_
          refine o_imul dX9_tries_318 rfl ?_
          refine o_iconst (v := 3) dX9_tries_319 rfl (by decide) ?_
          refine o_iadd dX9_tries_320 rfl ?_
          refine o_aload_n dX9_tries_321 rfl rfl (by rfl) ?_
          refine o_getI cl_X9_182 dX9_tries_322 rfl (by decide) (by rfl) (by rfl) ?_
          refine o_iast dX9_tries_325 rfl (by decide) (by rfl) (by rfl) (ixb (a := 9) (t := 3) (by omega) (by decide)) ?_
          refine o_aload_n dX9_tries_326 rfl rfl (by rfl) ?_
          refine o_getC (q := 101) cl_X9_28 dX9_tries_327 rfl (by decide) (by rfl) (by rfl) ?_
          refine o_bipush (v := 9) dX9_tries_330 rfl (by decide) ?_
          refine o_iload_n dX9_tries_332 rfl rfl (by rfl) ?_
          refine o_imul dX9_tries_333 rfl ?_
          refine o_iconst (v := 4) dX9_tries_334 rfl (by decide) ?_
          refine o_iadd dX9_tries_335 rfl ?_
          refine o_aload_n dX9_tries_336 rfl rfl (by rfl) ?_
          refine o_getI cl_X9_185 dX9_tries_337 rfl (by decide) (by rfl) (by rfl) ?_
          refine o_iast dX9_tries_340 rfl (by decide) (by rfl) (by rfl) (ixb (a := 9) (t := 4) (by omega) (by decide)) ?_
          refine o_aload_n dX9_tries_341 rfl rfl (by rfl) ?_
          refine o_getC (q := 101) cl_X9_28 dX9_tries_342 rfl (by decide) (by rfl) (by rfl) ?_
          refine o_bipush (v := 9) dX9_tries_345 rfl (by decide) ?_
          refine o_iload_n dX9_tries_347 rfl rfl (by rfl) ?_
          refine o_imul dX9_tries_348 rfl ?_
          refine o_iconst (v := 5) dX9_tries_349 rfl (by decide) ?_
          refine o_iadd dX9_tries_350 rfl ?_
          refine o_aload_n dX9_tries_351 rfl rfl (by rfl) ?_
          refine o_getI cl_X9_188 dX9_tries_352 rfl (by decide) (by rfl) (by rfl) ?_
          refine o_iast dX9_tries_355 rfl (by decide) (by rfl) (by rfl) (ixb (a := 9) (t := 5) (by omega) (by decide)) ?_
          refine o_aload_n dX9_tries_356 rfl rfl (by rfl) ?_
          refine o_getC (q := 101) cl_X9_28 dX9_tries_357 rfl (by decide) (by rfl) (by rfl) ?_
          refine o_bipush (v := 9) dX9_tries_360 rfl (by decide) ?_
          refine o_iload_n dX9_tries_362 rfl rfl (by rfl) ?_
          refine o_imul dX9_tries_363 rfl ?_
          refine o_bipush (v := 6) dX9_tries_364 rfl (by decide) ?_
          refine o_iadd dX9_tries_366 rfl ?_
          refine o_aload_n dX9_tries_367 rfl rfl (by rfl) ?_
          refine o_getI cl_X9_163 dX9_tries_368 rfl (by decide) (by rfl) (by rfl) ?_
          refine o_iast dX9_tries_371 rfl (by decide) (by rfl) (by rfl) (ixb (a := 9) (t := 6) (by omega) (by decide)) ?_
          refine o_aload_n dX9_tries_372 rfl rfl (by rfl) ?_
          refine o_getC (q := 101) cl_X9_28 dX9_tries_373 rfl (by decide) (by rfl) (by rfl) ?_
          refine o_bipush (v := 9) dX9_tries_376 rfl (by decide) ?_
          refine o_iload_n dX9_tries_378 rfl rfl (by rfl) ?_
          refine o_imul dX9_tries_379 rfl ?_
          refine o_bipush (v := 7) dX9_tries_380 rfl (by decide) ?_
          refine o_iadd dX9_tries_382 rfl ?_
          refine o_aload_n dX9_tries_383 rfl rfl (by rfl) ?_
          refine o_getI cl_X9_169 dX9_tries_384 rfl (by decide) (by rfl) (by rfl) ?_
          refine o_iast dX9_tries_387 rfl (by decide) (by rfl) (by rfl) (ixb (a := 9) (t := 7) (by omega) (by decide)) ?_
          refine o_aload_n dX9_tries_388 rfl rfl (by rfl) ?_
          refine o_getC (q := 101) cl_X9_28 dX9_tries_389 rfl (by decide) (by rfl) (by rfl) ?_
          refine o_bipush (v := 9) dX9_tries_392 rfl (by decide) ?_
          refine o_iload_n dX9_tries_394 rfl rfl (by rfl) ?_
          refine o_imul dX9_tries_395 rfl ?_
          refine o_bipush (v := 8) dX9_tries_396 rfl (by decide) ?_
          refine o_iadd dX9_tries_398 rfl ?_
          refine o_aload_n dX9_tries_399 rfl rfl (by rfl) ?_
          refine o_getI cl_X9_172 dX9_tries_400 rfl (by decide) (by rfl) (by rfl) ?_
          refine o_iast dX9_tries_403 rfl (by decide) (by rfl) (by rfl) (ixb (a := 9) (t := 8) (by omega) (by decide)) ?_
          refine o_iinc (v := nI (n + 1)) (L' := [(0, vC 94), (1, vI e2), (2, vI (nI (n + 1)))]) dX9_tries_404 rfl (by rfl) (by exact nI_1 n) (by decide) (by rfl) (by rfl) ?_
          refine o_goto (tgt := 81) dX9_tries_407 (by decide) ?_
          have hRW : RWS mu m5 a n := fun k hk j hj => by rw [h101]; exact hR k hk j hj
          have hP9 := hRW.go hA hT2 (PT.go (ixl (a := 9) (t := 8) (by omega)) rfl (PT.go (ixl (a := 9) (t := 7) (by omega)) rfl (PT.go (ixl (a := 9) (t := 6) (by omega)) rfl (PT.go (ixl (a := 9) (t := 5) (by omega)) rfl (PT.go (ixl (a := 9) (t := 4) (by omega)) rfl (PT.go (ixl (a := 9) (t := 3) (by omega)) rfl (PT.go (ixl (a := 9) (t := 2) (by omega)) rfl (PT.go (ixl (a := 9) (t := 1) (by omega)) rfl (PT.go (ixm (a := 9) (by omega)) rfl (PT.nil m5 101 (9 * n) (fun j => if j = 0 then m5 94 22 else if j = 1 then m5 94 23 else if j = 2 then m5 94 24 else if j = 3 then m5 94 25 else if j = 4 then m5 94 26 else if j = 5 then m5 94 27 else if j = 6 then m5 94 28 else if j = 7 then m5 94 29 else m5 94 30)))))))))))
          exact ihLP81 (n + 1) e2 _ (by omega) hP9.2 hP9.1 (by omega)
        refine o_iload_n dX9_tries_87 rfl rfl (by rfl) ?_
        refine o_if_ne (tgt := 268) dX9_tries_88 (by decide) rfl (fun (c88 : ¬ e = 0) => ?_) (fun (c88 : e = 0) => ?_)
        · skip
          exact J268 e m (hT.rest hA c88) rfl
        · skip
          refine o_aload_n dX9_tries_91 rfl rfl (by rfl) ?_
          refine o_getI cl_X9_166 dX9_tries_92 rfl (by decide) (by rfl) (by rfl) ?_
          refine o_aload_n dX9_tries_95 rfl rfl (by rfl) ?_
          refine o_getI cl_X9_169 dX9_tries_96 rfl (by decide) (by rfl) (by rfl) ?_
          refine o_isub dX9_tries_99 rfl ?_
          refine o_istore_n (L' := [(0, vC 94), (1, vI e), (2, vI (nI n)), (3, vI ((m 94 23) - (m 94 29)))]) dX9_tries_100 rfl rfl (by decide) (by rfl) (by rfl) ?_
          obtain ⟨s, hs, hs2⟩ := hT.2.1
          have hm18 : m 94 18 = -4 := hT.2.2.1.elim (fun h9 => h9.2) (fun h9 => absurd h9.1 (by rw [c88]; decide))
          have h12 : s 12 = nI n := traj_steps n s hs (hs2.caught.mpr hm18)
          have hu9 : m 102 n = hU mu a.2.1 a.2.2.1 n := hT.2.2.2.1 n (by omega) hn2
          have e15 : m 94 15 = mu 94 15 := hT.1.2 15 (by omega)
          have e16 : ¬ m 94 15 < 0 → m 94 16 = a.2.2.2.2.2 := fun h9 => (hT.1.2 16 (by omega)).trans (hA.2.2.2.2.2.2.2.resolve_left (fun h8 => hA.2.2.2.2.2.2.1.elim (fun h7 => h9 (by rw [e15, h7.2]; decide)) (fun ⟨i, hi7, h7, _⟩ => absurd (h7.symm.trans h8) (nI_nem1 (by have := hA.2.1.2.1.2.2.1; omega)))))
          have J174 : ∀ (m2 : Mu), (JS mu m m2 a s n) → WA X g RX9 5 cX9_tries 174 [(0, vC 94), (1, vI e), (2, vI (nI n)), (3, vI ((m 94 23) - (m 94 29)))] [] m2 := by
            intro m2 hJ
            refine o_aload_n dX9_tries_174 rfl rfl (by rfl) ?_
            refine o_dup dX9_tries_175 rfl rfl ?_
            refine o_getI cl_X9_163 dX9_tries_176 rfl (by decide) (by rfl) (by rfl) ?_
            refine o_aload_n dX9_tries_179 rfl rfl (by rfl) ?_
            refine o_getC (q := 102) cl_X9_31 dX9_tries_180 rfl (by decide) (by rfl) (by rfl) ?_
            refine o_iload_n dX9_tries_183 rfl rfl (by rfl) ?_
            refine o_iald dX9_tries_184 rfl (by decide) (by rfl) (by rfl) (vp_in_nI hn2 (by decide)) ?_
            refine o_iadd dX9_tries_185 rfl ?_
            refine o_put cl_X9_163 cp_X9_28 dX9_tries_186 rfl (by decide) (by rfl) (by rfl) fitI ?_
            refine o_aload_n dX9_tries_189 rfl rfl (by rfl) ?_
            refine o_dup dX9_tries_190 rfl rfl ?_
            refine o_getI cl_X9_169 dX9_tries_191 rfl (by decide) (by rfl) (by rfl) ?_
            refine o_aload_n dX9_tries_194 rfl rfl (by rfl) ?_
            refine o_getC (q := 103) cl_X9_34 dX9_tries_195 rfl (by decide) (by rfl) (by rfl) ?_
            refine o_iload_n dX9_tries_198 rfl rfl (by rfl) ?_
            refine o_iald dX9_tries_199 rfl (by decide) (by rfl) (by rfl) (vp_in_nI hn2 (by decide)) ?_
            refine o_iadd dX9_tries_200 rfl ?_
            refine o_put cl_X9_169 cp_X9_29 dX9_tries_201 rfl (by decide) (by rfl) (by rfl) fitI ?_
            refine o_aload_n dX9_tries_204 rfl rfl (by rfl) ?_
            refine o_dup dX9_tries_205 rfl rfl ?_
            refine o_getI cl_X9_182 dX9_tries_206 rfl (by decide) (by rfl) (by rfl) ?_
            refine o_aload_n dX9_tries_209 rfl rfl (by rfl) ?_
            refine o_getC (q := 95) cl_X9_7 dX9_tries_210 rfl (by decide) (by rfl) (by rfl) ?_
            refine o_iconst (v := 1) dX9_tries_213 rfl (by decide) ?_
            refine o_iald dX9_tries_214 rfl (by decide) (by rfl) (by rfl) (vp_in_nI (n := 1) (by decide) (by decide)) ?_
            refine o_isub dX9_tries_215 rfl ?_
            refine o_put cl_X9_182 cp_X9_25 dX9_tries_216 rfl (by decide) (by rfl) (by rfl) fitI ?_
            refine o_aload_n dX9_tries_219 rfl rfl (by rfl) ?_
            refine o_dup dX9_tries_220 rfl rfl ?_
            refine o_getI cl_X9_160 dX9_tries_221 rfl (by decide) (by rfl) (by rfl) ?_
            refine o_aload_n dX9_tries_224 rfl rfl (by rfl) ?_
            refine o_getI cl_X9_179 dX9_tries_225 rfl (by decide) (by rfl) (by rfl) ?_
            refine o_iadd dX9_tries_228 rfl ?_
            refine o_put cl_X9_160 cp_X9_22 dX9_tries_229 rfl (by decide) (by rfl) (by rfl) fitI ?_
            refine o_aload_n dX9_tries_232 rfl rfl (by rfl) ?_
            refine o_dup dX9_tries_233 rfl rfl ?_
            refine o_getI cl_X9_166 dX9_tries_234 rfl (by decide) (by rfl) (by rfl) ?_
            refine o_aload_n dX9_tries_237 rfl rfl (by rfl) ?_
            refine o_getI cl_X9_182 dX9_tries_238 rfl (by decide) (by rfl) (by rfl) ?_
            refine o_iadd dX9_tries_241 rfl ?_
            refine o_put cl_X9_166 cp_X9_23 dX9_tries_242 rfl (by decide) (by rfl) (by rfl) fitI ?_
            refine o_aload_n dX9_tries_245 rfl rfl (by rfl) ?_
            refine o_aload_n dX9_tries_246 rfl rfl (by rfl) ?_
            refine o_getC (q := 102) cl_X9_31 dX9_tries_247 rfl (by decide) (by rfl) (by rfl) ?_
            refine o_iload_n dX9_tries_250 rfl rfl (by rfl) ?_
            refine o_iald dX9_tries_251 rfl (by decide) (by rfl) (by rfl) (vp_in_nI hn2 (by decide)) ?_
            rw [nI_clamp (show n < 2 ^ 31 by omega)]
            obtain ⟨S0, eS0, hS0⟩ := hT.sq hA hn2 hs hs2 hJ
            obtain ⟨cd0, ecd0, hcd1, hcd2⟩ := rg_nI (a := 10) (b := 60) hA.2.2.1
            have ecd1 : wW m2 n 95 0 = nI cd0 := by rw [wW_k (by decide), hJ.1 95 (by decide), hT.1.1 95 (by decide) (by decide) (by decide) (by decide), hA.2.1.1.1]; exact ecd0
            have hcd1 : 1 ≤ cd0 := by omega
            refine o_callVV cs_X9_swings cv_X9_215 (c_X9_swings (wW m2 n) (m2 102 n) S0 eS0 hS0 cd0 ecd1 ⟨hcd1, hcd2⟩) hq.2.2.2 (Nat.le_of_ble_eq_true rfl) dX9_tries_252 rfl (by decide) (by rfl) (by rfl) (by rfl) rfl rfl (Nat.le_of_ble_eq_true rfl) (fun mS hW => ?_)
            refine o_aload_n dX9_tries_255 rfl rfl (by rfl) ?_
            refine o_iload_n dX9_tries_256 rfl rfl (by rfl) ?_
            refine o_aload_n dX9_tries_257 rfl rfl (by rfl) ?_
            refine o_getC (q := 102) cl_X9_31 dX9_tries_258 rfl (by decide) (by rfl) (by rfl) ?_
            refine o_iload_n dX9_tries_261 rfl rfl (by rfl) ?_
            refine o_iald dX9_tries_262 rfl (by decide) (by rfl) (by rfl) (vp_in_nI hn2 (by decide)) ?_
            refine o_iload_n dX9_tries_263 rfl rfl (by rfl) ?_
            rw [nI_clamp (show n < 2 ^ 31 by omega)]
            have h102 : mS 102 n = m2 102 n := by rw [hW.1 102 (by decide), wW_k (by decide)]
            rw [h102]
            have e96 : mS 96 = mu 96 := by rw [hW.1 96 (by decide), wW_k (by decide), hJ.1 96 (by decide)]; exact hT.1.1 96 (by decide) (by decide) (by decide) (by decide)
            have e941 : mS 94 1 = nI nc := by rw [hW.2.1 1 (by omega) (by decide), wW_i (by decide) (by decide) (by decide) (by decide) (by decide), hJ.1 94 (by decide), hT.1.2 1 (by omega)]; exact hA.2.1.2.1.2.1
            refine o_callV cs_X9_meets cv_X9_218 (c_X9_meets mS (cupD mu) nc hA.2.1.2.1.2.2.1 e941 (by rw [e96]; exact hA.cupD) (hold_26 hW.2.2) (m 94 23 - m 94 29) (m2 102 n) (nI n)) hq.2.2.2 (Nat.le_of_ble_eq_true rfl) dX9_tries_264 rfl (by decide) (by rfl) (by rfl) (by rfl) rfl rfl (Nat.le_of_ble_eq_true rfl) (fun r5 m5 hM => ?_)
            have hST := hT.step hA hn2 hm18 hs hs2 hJ hW hM
            refine o_istore_n (L' := [(0, vC 94), (1, vI r5), (2, vI (nI n)), (3, vI ((m 94 23) - (m 94 29)))]) dX9_tries_267 rfl rfl (by decide) (by rfl) (by rfl) ?_
            refine o_pick (L' := [(0, vC 94), (1, vI r5), (2, vI (nI n))]) [0, 1, 2] (by rfl) ?_
            exact J268 _ _ hST.1 hST.2
          refine o_aload_n dX9_tries_101 rfl rfl (by rfl) ?_
          refine o_getI cl_X9_37 dX9_tries_102 rfl (by decide) (by rfl) (by rfl) ?_
          refine o_if_lt (tgt := 174) dX9_tries_105 (by decide) rfl (fun (c105 : (m 94 15) < 0) => ?_) (fun (c105 : ¬ (m 94 15) < 0) => ?_)
          · skip
            exact J174 m (JS.no (side0 (Or.inl (hA.2.2.2.2.2.2.1.elim (fun h9 => h9.1) (fun ⟨i, _, _, h9⟩ => absurd c105 (by rw [e15, h9]; exact nI_nlt (b := 0) (by omega) (by have := hA.2.1.2.1.2.2.1; omega)))))) hu9)
          · skip
            refine o_iload_n dX9_tries_108 rfl rfl (by rfl) ?_
            refine o_aload_n dX9_tries_109 rfl rfl (by rfl) ?_
            refine o_getI cl_X9_212 dX9_tries_110 rfl (by decide) (by rfl) (by rfl) ?_
            refine o_icmp_lt (tgt := 174) dX9_tries_113 (by decide) rfl (fun (c113 : (nI n) < (m 94 16)) => ?_) (fun (c113 : ¬ (nI n) < (m 94 16)) => ?_)
            · skip
              exact J174 m (JS.no (side0 (Or.inr (Or.inl (by rw [h12, ← e16 c105]; exact c113)))) hu9)
            · skip
              refine o_aload_n dX9_tries_116 rfl rfl (by rfl) ?_
              refine o_getI cl_X9_172 dX9_tries_117 rfl (by decide) (by rfl) (by rfl) ?_
              refine o_if_ne (tgt := 174) dX9_tries_120 (by decide) rfl (fun (c120 : ¬ (m 94 30) = 0) => ?_) (fun (c120 : (m 94 30) = 0) => ?_)
              · skip
                exact J174 m (JS.no (side0 (Or.inr (Or.inr (by rw [hs2.1.2.2.2.2.2.2.2.2.1]; exact c120)))) hu9)
              · skip
                obtain ⟨l0, hl0, el1, el2⟩ := hA.2.2.2.2.2.2.1.resolve_left (fun h9 => c105 (by rw [e15, h9.2]; decide))
                have hnc4 := hA.2.1.2.1.2.2.1
                have hc96 : m 96 (5 * m 94 15).toNatClampNeg = mu (5 + l0) 0 := by rw [e15, el2, show (5 * nI l0).toNatClampNeg = 5 * l0 from ixm (a := 5) (by omega), hT.1.1 96 (by decide) (by decide) (by decide) (by decide)]; exact hA.2.1.2.1.2.2.2 l0 hl0 0 (by decide)
                have hIN := traj_inv hA.eok n (by omega) s hs
                have hcm := cmp_off (x := m 94 22 - m 94 28) (c := m 96 (5 * m 94 15).toNatClampNeg) (by rw [← hs2.1.1, ← hs2.1.2.2.2.2.2.2.1]; exact hIN.1) (by rw [hc96]; exact (hA.cup hl0).1)
                have hsd := side1 (mu := mu) (a := a) (s := s) (fun h9 => h9.elim (fun q => absurd (el1.symm.trans q) (nI_nem1 (by omega))) (fun q => q.elim (fun q => c113 (by rw [← h12, e16 c105]; exact q)) (fun q => q (by rw [hs2.1.2.2.2.2.2.2.2.2.1]; exact c120))))
                rw [el1, nI_clamp (by omega), (hA.cup hl0).2, ← hc96, hs2.1.1, hs2.1.2.2.2.2.2.2.1] at hsd
                rw [← el1] at hsd
                refine o_aload_n dX9_tries_123 rfl rfl (by rfl) ?_
                refine o_getI cl_X9_160 dX9_tries_124 rfl (by decide) (by rfl) (by rfl) ?_
                refine o_aload_n dX9_tries_127 rfl rfl (by rfl) ?_
                refine o_getI cl_X9_163 dX9_tries_128 rfl (by decide) (by rfl) (by rfl) ?_
                refine o_isub dX9_tries_131 rfl ?_
                refine o_aload_n dX9_tries_132 rfl rfl (by rfl) ?_
                refine o_getC (q := 96) cl_X9_13 dX9_tries_133 rfl (by decide) (by rfl) (by rfl) ?_
                refine o_iconst (v := 5) dX9_tries_136 rfl (by decide) ?_
                refine o_aload_n dX9_tries_137 rfl rfl (by rfl) ?_
                refine o_getI cl_X9_37 dX9_tries_138 rfl (by decide) (by rfl) (by rfl) ?_
                refine o_imul dX9_tries_141 rfl ?_
                refine o_iald dX9_tries_142 rfl (by decide) (by rfl) (by rfl) (by rw [e15, el2]; exact ixc (a := 5) (by omega) (by decide)) ?_
                refine o_isub dX9_tries_143 rfl ?_
                refine o_istore (L' := [(0, vC 94), (1, vI e), (2, vI (nI n)), (3, vI ((m 94 23) - (m 94 29))), (4, vI (((m 94 22) - (m 94 28)) - (m 96 (5 * m 94 15).toNatClampNeg)))]) dX9_tries_144 rfl (by decide) (by rfl) (by rfl) ?_
                refine o_aload_n dX9_tries_146 rfl rfl (by rfl) ?_
                refine o_getC (q := 102) cl_X9_31 dX9_tries_147 rfl (by decide) (by rfl) (by rfl) ?_
                refine o_iload_n dX9_tries_150 rfl rfl (by rfl) ?_
                refine o_dup2 dX9_tries_151 rfl rfl rfl ?_
                refine o_iald dX9_tries_152 rfl (by decide) (by rfl) (by rfl) (vp_in_nI hn2 (by decide)) ?_
                refine o_iload dX9_tries_153 rfl (by rfl) ?_
                refine o_if_le (tgt := 162) dX9_tries_155 (by decide) rfl (fun (c155 : (((m 94 22) - (m 94 28)) - (m 96 (5 * m 94 15).toNatClampNeg)) ≤ 0) => ?_) (fun (c155 : ¬ (((m 94 22) - (m 94 28)) - (m 96 (5 * m 94 15).toNatClampNeg)) ≤ 0) => ?_)
                · skip
                  refine o_iload dX9_tries_162 rfl (by rfl) ?_
                  refine o_if_ge (tgt := 171) dX9_tries_164 (by decide) rfl (fun (c164 : 0 ≤ (((m 94 22) - (m 94 28)) - (m 96 (5 * m 94 15).toNatClampNeg))) => ?_) (fun (c164 : ¬ 0 ≤ (((m 94 22) - (m 94 28)) - (m 96 (5 * m 94 15).toNatClampNeg))) => ?_)
                  · skip
                    refine o_iconst (v := 0) dX9_tries_171 rfl (by decide) ?_
                    refine o_iadd dX9_tries_172 rfl ?_
                    refine o_iast dX9_tries_173 rfl (by decide) (by rfl) (by rfl) (vp_in_nI hn2 (by decide)) ?_
                    refine o_pick (L' := [(0, vC 94), (1, vI e), (2, vI (nI n)), (3, vI ((m 94 23) - (m 94 29)))]) [0, 1, 2, 3] (by rfl) ?_
                    rw [nI_clamp (show n < 2 ^ 31 by omega)]
                    exact J174 _ (JS.yes (hsd.trans (hcm.2.2 (fun h9 => absurd c155 (Int32.not_le.mpr h9)) (fun h9 => absurd c164 (Int32.not_le.mpr h9)))) hu9)
                  · skip
                    refine o_iconst (v := (-1)) dX9_tries_167 rfl (by decide) ?_
                    refine o_goto (tgt := 172) dX9_tries_168 (by decide) ?_
                    refine o_iadd dX9_tries_172 rfl ?_
                    refine o_iast dX9_tries_173 rfl (by decide) (by rfl) (by rfl) (vp_in_nI hn2 (by decide)) ?_
                    refine o_pick (L' := [(0, vC 94), (1, vI e), (2, vI (nI n)), (3, vI ((m 94 23) - (m 94 29)))]) [0, 1, 2, 3] (by rfl) ?_
                    rw [nI_clamp (show n < 2 ^ 31 by omega)]
                    exact J174 _ (JS.yes (hsd.trans (hcm.2.1 (Int32.not_le.mp c164))) hu9)
                · skip
                  refine o_iconst (v := 1) dX9_tries_158 rfl (by decide) ?_
                  refine o_goto (tgt := 172) dX9_tries_159 (by decide) ?_
                  refine o_iadd dX9_tries_172 rfl ?_
                  refine o_iast dX9_tries_173 rfl (by decide) (by rfl) (by rfl) (vp_in_nI hn2 (by decide)) ?_
                  refine o_pick (L' := [(0, vC 94), (1, vI e), (2, vI (nI n)), (3, vI ((m 94 23) - (m 94 29)))]) [0, 1, 2, 3] (by rfl) ?_
                  rw [nI_clamp (show n < 2 ^ 31 by omega)]
                  exact J174 _ (JS.yes (hsd.trans (hcm.1 (Int32.not_le.mp c155))) hu9)
  exact LP81 101 0 0 _ (by omega) (TRQ.beg hA (fun q q1 q2 q3 => by simp only [upF_k q1]; exact hY.1 q q2 q3) (fun i hi => by simp only [upF_k (show (102 : Nat) ≠ 94 by decide), upF_k (show (103 : Nat) ≠ 94 by decide)]; exact hY.2 i hi) (fun j h9 => by simp only [upF_i (show j ≠ 22 by omega), upF_i (show j ≠ 23 by omega), upF_i (show j ≠ 24 by omega), upF_i (show j ≠ 25 by omega), upF_i (show j ≠ 26 by omega), upF_i (show j ≠ 27 by omega), upF_i (show j ≠ 28 by omega), upF_i (show j ≠ 29 by omega), upF_i (show j ≠ 30 by omega), upF_i (show j ≠ 18 by omega), upF_i (show j ≠ 19 by omega), upF_i (show j ≠ 20 by omega), upF_i (show j ≠ 21 by omega)]; rw [hY.1 94 (by decide) (by decide)]) rfl (by show -(mY 95 0) = -a.1; rw [hY.1 95 (by decide) (by decide), hA.2.1.1.1]) rfl rfl rfl rfl rfl rfl rfl rfl rfl rfl rfl) (fun k hk => by omega) (by omega)
