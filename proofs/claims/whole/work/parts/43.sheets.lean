/-! ===== sheets ===== -/
theorem ac_292 : Cond.methodLink RX8 292 arraycopyName ∈ tb0 ∧ Cond.native arraycopyName ∈ tb0 ∧ Cond.static arraycopyName ∈ tb0 ∧ Cond.initialized "java/lang/System" ∈ tb0 := ⟨mem0 (i := 799) (by decide +kernel) rfl, mem0 (i := 801) (by decide +kernel) rfl, mem0 (i := 800) (by decide +kernel) rfl, mem0 (i := 58) (by decide +kernel) rfl⟩
theorem o_copy {X : CX} {g : GX} {own : String} {nL : Nat} {cc : ByteArray} {pc pc' : Nat} {L : List (Nat × AV)} {st : List AV} {mu : Mu} {ix k0 k1 n0 n1 d : Nat} {sp dp n : Int32} (hc : Cond.methodLink own ix arraycopyName ∈ tb0 ∧ Cond.native arraycopyName ∈ tb0 ∧ Cond.static arraycopyName ∈ tb0 ∧ Cond.initialized "java/lang/System" ∈ tb0) (hd : decode cc pc = .ok (.invokestatic ix, 3)) (hn : pc + 3 = pc')
    (hk0 : k0 < NC) (hs0 : sh k0 = .inr (.inl n0)) (ht0 : aty k0 = .int) (hk1 : k1 < NC) (hs1 : sh k1 = .inr (.inl n1)) (ht1 : aty k1 = .int) (hb : ¬ sp < 0 ∧ ¬ dp < 0 ∧ ¬ n < 0 ∧ sp.toNatClampNeg + n.toNatClampNeg ≤ n0 ∧ dp.toNatClampNeg + n.toNatClampNeg ≤ n1) (hr : RM X (d + 1)) (hw : wds st ≤ 8)
    (kk : WA X g own nL cc pc' L st (upM mu k1 (va_cpy (mu k0) (mu k1) sp.toNatClampNeg dp.toNatClampNeg n.toNatClampNeg))) : WA X g own nL cc pc L (vI n :: vI dp :: vC k1 :: vI sp :: vC k0 :: st) mu := by
  subst hn
  intro F H locs ls hP hS hl
  obtain ⟨hx, hb0, hml, hown, hts, hnw, hK, hDD, hA, hSF⟩ := id F
  obtain ⟨r1, r2, r3, r4⟩ := hr
  refine va_copyi (ty := .int) hx hb0 (hml.trans hl.1.symm) hown (hts _ hc.1) (hts _ hc.2.1) (hts _ hc.2.2.1) (hts _ hc.2.2.2) hK hP (wd_D hDD mu) hS k0 k1 k0 k1 (wd_ar hk0 hs0) (wd_ar hk1 hs1) (by rw [tyz_at hk0, ht0]) (by rw [tyz_at hk1, ht1]) rfl hb.1 hb.2.1 hb.2.2.1 hb.2.2.2.1 hb.2.2.2.2 (fun _ _ => rfl) (by omega) (by rw [wds_eq]; have h20 : nativeFrameWords "java/lang/System" "arraycopy" 5 ≤ 20 := (by decide +kernel); omega) hd (fun H1 locs1 hP1 hD1 hS1 => ?_)
  rw [wd_arset hk1 hs1] at hP1
  exact kk F H1 locs1 ls hP1 hS1 hl
theorem rowZ : ∀ a, a < 4 → 90 + a < NC ∧ sh (90 + a) = .inr (.inl 24) ∧ aty (90 + a) = .int := by decide +kernel
def cutV (lane v : Int32) : Int32 := if lane = 0 then v.toInt8.toInt32 else if lane = 1 then v.toInt16.toInt32 else v
def fitB (sz i n : Int32) : Bool := decide (¬ i < 0 ∧ ¬ n < 0 ∧ ¬ sz < i ∧ ¬ sz - i < n)
/-- what the sheets hold -/
def HOK (mu : Mu) : Prop := ∀ a, a < 4 → mu 88 a = -1 ∨ ∃ z, z ≤ 24 ∧ mu 88 a = nI z
theorem fit_nI {mu : Mu} {a : Nat} {i n : Int32} (hH : HOK mu) (ha : a < 4) (h : fitB (mu 88 a) i n = true) : ∃ z I N : Nat, mu 88 a = nI z ∧ z ≤ 24 ∧ i = nI I ∧ n = nI N ∧ I + N ≤ z := by
  have h := of_decide_eq_true h
  obtain ⟨h1, h2, h3, h4⟩ := h
  obtain ⟨I, e1, e2⟩ := nI_of h1
  obtain ⟨N, f1, f2⟩ := nI_of h2
  have ti : i.toInt = I := by rw [e2, nI_toInt e1]
  have tn : n.toInt = N := by rw [f2, nI_toInt f1]
  rcases hH a ha with e | ⟨z, hz, e⟩
  · rw [e, i_lt] at h3
    have : (-1 : Int32).toInt = -1 := rfl
    omega
  · have tz : (mu 88 a).toInt = z := by rw [e, nI_toInt (by omega)]
    rw [i_lt] at h3 h4
    rw [i_sub (by omega) (by omega)] at h4
    exact ⟨z, I, N, e, hz, e2, f2, by omega⟩
set_option maxHeartbeats 4000000 in
set_option maxRecDepth 100000 in
theorem c_J7_fill_53178 (mu : Mu) (k n : Nat) (hk : k < NC) (hs : sh k = .inr (.inl n)) (ht : aty k = .int) (hn : n < 2000) (v : Int32) : ConV yJ7_fill_53178 cJ7_fill_53178 4 0 [vC k, vI v] mu (fun mu2 => (∀ q, q ≠ k → mu2 q = mu q) ∧ (∀ j, j < n → mu2 k j = v) ∧ ∀ j, n ≤ j → mu2 k j = mu k j) := by
  refine conV_of (own := RJ7) (by decide) rfl (Nat.le_of_ble_eq_true rfl) (fun X g hq => ?_)
  show WA X g RJ7 4 cJ7_fill_53178 0 [(0, vC k), (1, vI v)] [] mu
  refine o_iconst (v := 0) dJ7_fill_53178_0 rfl (by decide) ?_
  refine o_istore_n (L' := [(0, vC k), (1, vI v), (2, vI 0)]) dJ7_fill_53178_1 rfl rfl (by decide) (by rfl) (by rfl) ?_
  refine o_aload_n dJ7_fill_53178_2 rfl rfl (by rfl) ?_
  refine o_alen (v := (nI n)) dJ7_fill_53178_3 rfl hk hs (by rfl) ?_
  refine o_istore_n (L' := [(0, vC k), (1, vI v), (2, vI 0), (3, vI ((nI n)))]) dJ7_fill_53178_4 rfl rfl (by decide) (by rfl) (by rfl) ?_
  have LP5 : ∀ (nLP5 : Nat) (i : Nat) (m : Mu) , (i ≤ n) → (∀ q, q ≠ k → m q = mu q) → (∀ j, j < i → m k j = v) → (∀ j, i ≤ j → m k j = mu k j) → (n < i + nLP5) → WA X g RJ7 4 cJ7_fill_53178 5 [(0, vC k), (1, vI v), (2, vI (nI i)), (3, vI ((nI n)))] [] m := by
    intro nLP5
    induction nLP5 with
    | zero =>
      intro i m hi hF hA hB hm
      exact absurd hm (by omega)
    | succ nLP5 ihLP5 =>
      intro i m hi hF hA hB hm
      refine o_iload_n dJ7_fill_53178_5 rfl rfl (by rfl) ?_
      refine o_iload_n dJ7_fill_53178_6 rfl rfl (by rfl) ?_
      refine o_icmp_ge (tgt := 20) dJ7_fill_53178_7 (by decide) rfl (fun (c7 : ((nI n)) ≤ (nI i)) => ?_) (fun (c7 : ¬ ((nI n)) ≤ (nI i)) => ?_)
      · skip
        have hzi := nI_dec2 c7 (by omega) (by omega)
        have e2 : i = n := by omega
        exact o_vret hq dJ7_fill_53178_20 ⟨hF, fun j hj => hA j (by omega), fun j hj => hB j (by omega)⟩
      · skip
        have hiz := nI_dec c7 (by omega) (by omega)
        refine o_aload_n dJ7_fill_53178_10 rfl rfl (by rfl) ?_
        refine o_iload_n dJ7_fill_53178_11 rfl rfl (by rfl) ?_
        refine o_iload_n dJ7_fill_53178_12 rfl rfl (by rfl) ?_
        refine o_iast dJ7_fill_53178_13 rfl hk hs ht (vp_in_nI hiz (by omega)) ?_
        refine o_iinc (v := nI (i + 1)) (L' := [(0, vC k), (1, vI v), (2, vI (nI (i + 1))), (3, vI ((nI n)))]) dJ7_fill_53178_14 rfl (by rfl) (by exact nI_1 i) (by decide) (by rfl) (by rfl) ?_
        refine o_goto (tgt := 5) dJ7_fill_53178_17 (by decide) ?_
        exact ihLP5 (i + 1) _ (by omega) (fun q hq => by rw [upF_k hq]; exact hF q hq) (lt_s (fun j hj => by rw [nI_clamp (by omega), upF_i (by omega)]; exact hA j hj) (by rw [nI_clamp (by omega), upF_s])) (fun j hj => by rw [nI_clamp (by omega), upF_i (by omega)]; exact hB j (by omega)) (by omega)
  exact LP5 (n + 1) 0 _ (by omega) (fun _ _ => rfl) (fun j h => by omega) (fun _ _ => rfl) (by omega)
set_option maxHeartbeats 4000000 in
set_option maxRecDepth 100000 in
theorem c_X5_isNothing (mu : Mu) (a : Nat) (ha : a < 4) : Con yX5_isNothing cX5_isNothing 2 (some .boolean) 0 [vC 86, vI (nI a)] mu (fun r mu2 => mu2 = mu ∧ r = if decide (mu 88 a = -1) = true then 1 else 0) := by
  refine con_of (own := RX5) (by decide) rfl (Nat.le_of_ble_eq_true rfl) (fun X g hq => ?_)
  show WA X g RX5 2 cX5_isNothing 0 [(0, vC 86), (1, vI (nI a))] [] mu
  have ec : (nI a).toNatClampNeg = a := nI_clamp (show a < 2 ^ 31 by omega)
  refine o_aload_n dX5_isNothing_0 rfl rfl (by rfl) ?_
  refine o_getC (q := 88) cl_X5_15 dX5_isNothing_1 rfl (by decide) (by rfl) (by rfl) ?_
  refine o_iload_n dX5_isNothing_4 rfl rfl (by rfl) ?_
  refine o_iald dX5_isNothing_5 rfl (by decide) (by rfl) (by rfl) (vp_in_nI ha (by decide)) ?_
  refine o_iconst (v := (-1)) dX5_isNothing_6 rfl (by decide) ?_
  refine o_icmp_ne (tgt := 14) dX5_isNothing_7 (by decide) rfl (fun (c7 : ¬ (mu 88 (nI a).toNatClampNeg) = ((-1))) => ?_) (fun (c7 : (mu 88 (nI a).toNatClampNeg) = ((-1))) => ?_)
  · skip
    refine o_iconst (v := 0) dX5_isNothing_14 rfl (by decide) ?_
    exact o_zret hq dX5_isNothing_15 (Or.inl rfl) ⟨rfl, by rw [ec] at c7; simp [c7]⟩
  · skip
    refine o_iconst (v := 1) dX5_isNothing_10 rfl (by decide) ?_
    refine o_goto (tgt := 15) dX5_isNothing_11 (by decide) ?_
    exact o_zret hq dX5_isNothing_15 (Or.inr rfl) ⟨rfl, by rw [ec] at c7; simp [c7]⟩
set_option maxHeartbeats 4000000 in
set_option maxRecDepth 100000 in
theorem c_X5_letGo (mu : Mu) (a : Nat) (ha : a < 4) : Con yX5_letGo cX5_letGo 3 (some .int) 0 [vC 86, vI (nI a)] mu (fun r mu2 => mu2 = upF mu 88 a (-1) ∧ r = mu 88 a) := by
  refine con_of (own := RX5) (by decide) rfl (Nat.le_of_ble_eq_true rfl) (fun X g hq => ?_)
  show WA X g RX5 3 cX5_letGo 0 [(0, vC 86), (1, vI (nI a))] [] mu
  have ec : (nI a).toNatClampNeg = a := nI_clamp (show a < 2 ^ 31 by omega)
  refine o_aload_n dX5_letGo_0 rfl rfl (by rfl) ?_
  refine o_getC (q := 88) cl_X5_15 dX5_letGo_1 rfl (by decide) (by rfl) (by rfl) ?_
  refine o_iload_n dX5_letGo_4 rfl rfl (by rfl) ?_
  refine o_iald dX5_letGo_5 rfl (by decide) (by rfl) (by rfl) (vp_in_nI ha (by decide)) ?_
  refine o_istore_n (L' := [(0, vC 86), (1, vI (nI a)), (2, vI (mu 88 (nI a).toNatClampNeg))]) dX5_letGo_6 rfl rfl (by decide) (by rfl) (by rfl) ?_
  refine o_aload_n dX5_letGo_7 rfl rfl (by rfl) ?_
  refine o_getC (q := 88) cl_X5_15 dX5_letGo_8 rfl (by decide) (by rfl) (by rfl) ?_
  refine o_iload_n dX5_letGo_11 rfl rfl (by rfl) ?_
  refine o_iconst (v := (-1)) dX5_letGo_12 rfl (by decide) ?_
  refine o_iast dX5_letGo_13 rfl (by decide) (by rfl) (by rfl) (vp_in_nI ha (by decide)) ?_
  refine o_iload_n dX5_letGo_14 rfl rfl (by rfl) ?_
  exact o_iret hq dX5_letGo_15 ⟨by rw [ec], by rw [ec]⟩
set_option maxHeartbeats 4000000 in
set_option maxRecDepth 100000 in
theorem c_X5_fits (mu : Mu) (a : Nat) (ha : a < 4) (i n : Int32) : Con yX5_fits cX5_fits 4 (some .boolean) 0 [vC 86, vI (nI a), vI i, vI n] mu (fun r mu2 => mu2 = mu ∧ r = if fitB (mu 88 a) i n = true then 1 else 0) := by
  refine con_of (own := RX5) (by decide) rfl (Nat.le_of_ble_eq_true rfl) (fun X g hq => ?_)
  show WA X g RX5 4 cX5_fits 0 [(0, vC 86), (1, vI (nI a)), (2, vI i), (3, vI n)] [] mu
  have ec : (nI a).toNatClampNeg = a := nI_clamp (show a < 2 ^ 31 by omega)
  refine o_iload_n dX5_fits_0 rfl rfl (by rfl) ?_
  refine o_if_lt (tgt := 34) dX5_fits_1 (by decide) rfl (fun (c1 : i < 0) => ?_) (fun (c1 : ¬ i < 0) => ?_)
  · skip
    refine o_iconst (v := 0) dX5_fits_34 rfl (by decide) ?_
    exact o_zret hq dX5_fits_35 (Or.inl rfl) ⟨rfl, by try rw [ec] at *; simp [fitB, c1]⟩
  · skip
    refine o_iload_n dX5_fits_4 rfl rfl (by rfl) ?_
    refine o_if_lt (tgt := 34) dX5_fits_5 (by decide) rfl (fun (c5 : n < 0) => ?_) (fun (c5 : ¬ n < 0) => ?_)
    · skip
      refine o_iconst (v := 0) dX5_fits_34 rfl (by decide) ?_
      exact o_zret hq dX5_fits_35 (Or.inl rfl) ⟨rfl, by try rw [ec] at *; simp [fitB, c1, c5]⟩
    · skip
      refine o_iload_n dX5_fits_8 rfl rfl (by rfl) ?_
      refine o_aload_n dX5_fits_9 rfl rfl (by rfl) ?_
      refine o_getC (q := 88) cl_X5_15 dX5_fits_10 rfl (by decide) (by rfl) (by rfl) ?_
      refine o_iload_n dX5_fits_13 rfl rfl (by rfl) ?_
      refine o_iald dX5_fits_14 rfl (by decide) (by rfl) (by rfl) (vp_in_nI ha (by decide)) ?_
      refine o_icmp_gt (tgt := 34) dX5_fits_15 (by decide) rfl (fun (c15 : (mu 88 (nI a).toNatClampNeg) < i) => ?_) (fun (c15 : ¬ (mu 88 (nI a).toNatClampNeg) < i) => ?_)
      · skip
        refine o_iconst (v := 0) dX5_fits_34 rfl (by decide) ?_
        exact o_zret hq dX5_fits_35 (Or.inl rfl) ⟨rfl, by try rw [ec] at *; simp [fitB, c1, c5, c15]⟩
      · skip
        refine o_iload_n dX5_fits_18 rfl rfl (by rfl) ?_
        refine o_aload_n dX5_fits_19 rfl rfl (by rfl) ?_
        refine o_getC (q := 88) cl_X5_15 dX5_fits_20 rfl (by decide) (by rfl) (by rfl) ?_
        refine o_iload_n dX5_fits_23 rfl rfl (by rfl) ?_
        refine o_iald dX5_fits_24 rfl (by decide) (by rfl) (by rfl) (vp_in_nI ha (by decide)) ?_
        refine o_iload_n dX5_fits_25 rfl rfl (by rfl) ?_
        refine o_isub dX5_fits_26 rfl ?_
        refine o_icmp_gt (tgt := 34) dX5_fits_27 (by decide) rfl (fun (c27 : ((mu 88 (nI a).toNatClampNeg) - i) < n) => ?_) (fun (c27 : ¬ ((mu 88 (nI a).toNatClampNeg) - i) < n) => ?_)
        · skip
          refine o_iconst (v := 0) dX5_fits_34 rfl (by decide) ?_
          exact o_zret hq dX5_fits_35 (Or.inl rfl) ⟨rfl, by try rw [ec] at *; simp [fitB, c1, c5, c15, c27]⟩
        · skip
          refine o_iconst (v := 1) dX5_fits_30 rfl (by decide) ?_
          refine o_goto (tgt := 35) dX5_fits_31 (by decide) ?_
          exact o_zret hq dX5_fits_35 (Or.inr rfl) ⟨rfl, by try rw [ec] at *; simp [fitB, c1, c5, c15, c27]⟩
set_option maxHeartbeats 4000000 in
set_option maxRecDepth 100000 in
theorem c_X5_cutTo (mu : Mu) (lane v : Int32) : Con yX5_cutTo cX5_cutTo 2 (some .int) 0 [vI lane, vI v] mu (fun r mu2 => mu2 = mu ∧ r = cutV lane v) := by
  refine con_of (own := RX5) (by decide) rfl (Nat.le_of_ble_eq_true rfl) (fun X g hq => ?_)
  show WA X g RX5 2 cX5_cutTo 0 [(0, vI lane), (1, vI v)] [] mu
  refine o_iload_n dX5_cutTo_0 rfl rfl (by rfl) ?_
  by_cases k1_0 : lane = 0
  · skip
    refine o_lookup (off := 27) (tgt := 28) dX5_cutTo_1 (by decide) (by rw [k1_0]; rfl) (by decide) ?_
    refine o_iload_n dX5_cutTo_28 rfl rfl (by rfl) ?_
    refine o_i2b dX5_cutTo_29 rfl ?_
    exact o_iret hq dX5_cutTo_30 ⟨rfl, by simp [cutV, k1_0]⟩
  by_cases k1_1 : lane = 1
  · skip
    refine o_lookup (off := 30) (tgt := 31) dX5_cutTo_1 (by decide) (by rw [k1_1]; rfl) (by decide) ?_
    refine o_iload_n dX5_cutTo_31 rfl rfl (by rfl) ?_
    refine o_i2s dX5_cutTo_32 rfl ?_
    exact o_iret hq dX5_cutTo_33 ⟨rfl, by simp [cutV, k1_0, k1_1]⟩
  skip
  refine o_lookup (off := 33) (tgt := 34) dX5_cutTo_1 (by decide) ((lv_osw (a := 0) k1_0 rfl).trans ((lv_osw (a := 1) k1_1 rfl).trans (rfl))) (by decide) ?_
  refine o_iload_n dX5_cutTo_34 rfl rfl (by rfl) ?_
  exact o_iret hq dX5_cutTo_35 ⟨rfl, by simp [cutV, k1_0, k1_1]⟩
set_option maxHeartbeats 4000000 in
set_option maxRecDepth 100000 in
theorem c_X5_get (mu : Mu) (hH : HOK mu) (a : Nat) (ha : a < 4) (i : Int32) : Con yX5_get cX5_get 3 (some .int) 1 [vC 86, vI (nI a), vI i] mu (fun r mu2 => mu2 = mu ∧ r = if fitB (mu 88 a) i 1 = true then mu (90 + a) i.toNatClampNeg else 0) := by
  refine con_of (own := RX5) (by decide) rfl (Nat.le_of_ble_eq_true rfl) (fun X g hq => ?_)
  show WA X g RX5 3 cX5_get 0 [(0, vC 86), (1, vI (nI a)), (2, vI i)] [] mu
  have ec : (nI a).toNatClampNeg = a := nI_clamp (show a < 2 ^ 31 by omega)
  refine o_aload_n dX5_get_0 rfl rfl (by rfl) ?_
  refine o_iload_n dX5_get_1 rfl rfl (by rfl) ?_
  refine o_iload_n dX5_get_2 rfl rfl (by rfl) ?_
  refine o_iconst (v := 1) dX5_get_3 rfl (by decide) ?_
  refine o_callV cs_X5_fits cv_X5_33 (c_X5_fits _ a ha i 1) hq.2.2.2 (Nat.le_of_ble_eq_true rfl) dX5_get_4 rfl (by decide) (by rfl) (by rfl) (by rfl) rfl rfl (Nat.le_of_ble_eq_true rfl) (fun r1 mu1 h1 => ?_)
  obtain ⟨em, h1⟩ := h1
  rw [em]
  refine o_if_eq (tgt := 21) dX5_get_7 (by decide) rfl (fun (c7 : r1 = 0) => ?_) (fun (c7 : ¬ r1 = 0) => ?_)
  · skip
    have b7 := (if10 h1).1 c7
    refine o_iconst (v := 0) dX5_get_21 rfl (by decide) ?_
    exact o_iret hq dX5_get_22 ⟨rfl, by rw [if_neg b7]⟩
  · skip
    have b7 := (if10 h1).2 c7
    have hin : vp_in i 24 := by obtain ⟨z, I, N, e1, hz, e2, e3, h⟩ := fit_nI hH ha b7; have e4 : N = 1 := (nI_eq (by omega) (by decide)).mp e3.symm; rw [e2]; exact vp_in_nI (by omega) (by decide)
    refine o_aload_n dX5_get_10 rfl rfl (by rfl) ?_
    refine o_getC (q := 89) cl_X5_20 dX5_get_11 rfl (by decide) (by rfl) (by rfl) ?_
    refine o_iload_n dX5_get_14 rfl rfl (by rfl) ?_
    refine o_aald dX5_get_15 rfl (by decide) (by rfl) (by rfl) (vp_in_nI ha (by decide)) ?_
    refine o_iload_n dX5_get_16 rfl rfl (by rfl) ?_
    refine o_iald dX5_get_17 rfl (by rw [ec]; exact (rowZ a ha).1) (by rw [ec]; exact (rowZ a ha).2.1) (by rw [ec]; exact (rowZ a ha).2.2) hin ?_
    refine o_goto (tgt := 22) dX5_get_18 (by decide) ?_
    exact o_iret hq dX5_get_22 ⟨rfl, by rw [if_pos b7, ec]⟩
set_option maxHeartbeats 4000000 in
set_option maxRecDepth 100000 in
theorem c_X5_put (mu : Mu) (hH : HOK mu) (a : Nat) (ha : a < 4) (i v : Int32) : ConV yX5_put cX5_put 4 1 [vC 86, vI (nI a), vI i, vI v] mu (fun mu2 => mu2 = if fitB (mu 88 a) i 1 = true then upF mu (90 + a) i.toNatClampNeg (cutV (mu 87 a) v) else mu) := by
  refine conV_of (own := RX5) (by decide) rfl (Nat.le_of_ble_eq_true rfl) (fun X g hq => ?_)
  show WA X g RX5 4 cX5_put 0 [(0, vC 86), (1, vI (nI a)), (2, vI i), (3, vI v)] [] mu
  have ec : (nI a).toNatClampNeg = a := nI_clamp (show a < 2 ^ 31 by omega)
  refine o_aload_n dX5_put_0 rfl rfl (by rfl) ?_
  refine o_iload_n dX5_put_1 rfl rfl (by rfl) ?_
  refine o_iload_n dX5_put_2 rfl rfl (by rfl) ?_
  refine o_iconst (v := 1) dX5_put_3 rfl (by decide) ?_
  refine o_callV cs_X5_fits cv_X5_33 (c_X5_fits _ a ha i 1) hq.2.2.2 (Nat.le_of_ble_eq_true rfl) dX5_put_4 rfl (by decide) (by rfl) (by rfl) (by rfl) rfl rfl (Nat.le_of_ble_eq_true rfl) (fun r1 mu1 h1 => ?_)
  obtain ⟨em, h1⟩ := h1
  rw [em]
  refine o_if_eq (tgt := 28) dX5_put_7 (by decide) rfl (fun (c7 : r1 = 0) => ?_) (fun (c7 : ¬ r1 = 0) => ?_)
  · skip
    have b7 := (if10 h1).1 c7
    exact o_vret hq dX5_put_28 (by rw [if_neg b7])
  · skip
    have b7 := (if10 h1).2 c7
    have hin : vp_in i 24 := by obtain ⟨z, I, N, e1, hz, e2, e3, h⟩ := fit_nI hH ha b7; have e4 : N = 1 := (nI_eq (by omega) (by decide)).mp e3.symm; rw [e2]; exact vp_in_nI (by omega) (by decide)
    refine o_aload_n dX5_put_10 rfl rfl (by rfl) ?_
    refine o_getC (q := 89) cl_X5_20 dX5_put_11 rfl (by decide) (by rfl) (by rfl) ?_
    refine o_iload_n dX5_put_14 rfl rfl (by rfl) ?_
    refine o_aald dX5_put_15 rfl (by decide) (by rfl) (by rfl) (vp_in_nI ha (by decide)) ?_
    refine o_iload_n dX5_put_16 rfl rfl (by rfl) ?_
    refine o_aload_n dX5_put_17 rfl rfl (by rfl) ?_
    refine o_getC (q := 87) cl_X5_9 dX5_put_18 rfl (by decide) (by rfl) (by rfl) ?_
    refine o_iload_n dX5_put_21 rfl rfl (by rfl) ?_
    refine o_iald dX5_put_22 rfl (by decide) (by rfl) (by rfl) (vp_in_nI ha (by decide)) ?_
    refine o_iload_n dX5_put_23 rfl rfl (by rfl) ?_
    refine o_callS cs_X5_cutTo ct_X5_37 (c_X5_cutTo _ (mu 87 (nI a).toNatClampNeg) v) hq.2.2.2 (Nat.le_of_ble_eq_true rfl) dX5_put_24 rfl rfl rfl (Nat.le_of_ble_eq_true rfl) (fun rc mu2 hc => ?_)
    obtain ⟨em, hc⟩ := hc
    rw [em]
    subst hc
    refine o_iast dX5_put_27 rfl (by rw [ec]; exact (rowZ a ha).1) (by rw [ec]; exact (rowZ a ha).2.1) (by rw [ec]; exact (rowZ a ha).2.2) hin ?_
    exact o_vret hq dX5_put_28 (by rw [if_pos b7, ec])
def refV (mu : Mu) (a : Nat) (lane i n : Int32) : Int32 := if mu 88 a = -1 then -11 else if ¬ mu 87 a = lane then -12 else if fitB (mu 88 a) i n = true then 0 else -13
set_option maxHeartbeats 4000000 in
set_option maxRecDepth 100000 in
theorem c_X5_refusalOf (mu : Mu) (a : Nat) (ha : a < 4) (lane i n : Int32) : Con yX5_refusalOf cX5_refusalOf 5 (some .int) 1 [vC 86, vI (nI a), vI lane, vI i, vI n] mu (fun r mu2 => mu2 = mu ∧ r = refV mu a lane i n) := by
  refine con_of (own := RX5) (by decide) rfl (Nat.le_of_ble_eq_true rfl) (fun X g hq => ?_)
  show WA X g RX5 5 cX5_refusalOf 0 [(0, vC 86), (1, vI (nI a)), (2, vI lane), (3, vI i), (4, vI n)] [] mu
  have ec : (nI a).toNatClampNeg = a := nI_clamp (show a < 2 ^ 31 by omega)
  refine o_aload_n dX5_refusalOf_0 rfl rfl (by rfl) ?_
  refine o_iload_n dX5_refusalOf_1 rfl rfl (by rfl) ?_
  refine o_callV cs_X5_isNothing cv_X5_29 (c_X5_isNothing _ a ha) hq.2.2.2 (Nat.le_of_ble_eq_true rfl) dX5_refusalOf_2 rfl (by decide) (by rfl) (by rfl) (by rfl) rfl rfl (Nat.le_of_ble_eq_true rfl) (fun r1 mu1 h1 => ?_)
  obtain ⟨em, h1⟩ := h1
  rw [em]
  refine o_if_eq (tgt := 11) dX5_refusalOf_5 (by decide) rfl (fun (c5 : r1 = 0) => ?_) (fun (c5 : ¬ r1 = 0) => ?_)
  · skip
    have b5 := (if10 h1).1 c5
    refine o_aload_n dX5_refusalOf_11 rfl rfl (by rfl) ?_
    refine o_getC (q := 87) cl_X5_9 dX5_refusalOf_12 rfl (by decide) (by rfl) (by rfl) ?_
    refine o_iload_n dX5_refusalOf_15 rfl rfl (by rfl) ?_
    refine o_iald dX5_refusalOf_16 rfl (by decide) (by rfl) (by rfl) (vp_in_nI ha (by decide)) ?_
    refine o_iload_n dX5_refusalOf_17 rfl rfl (by rfl) ?_
    refine o_icmp_eq (tgt := 24) dX5_refusalOf_18 (by decide) rfl (fun (c18 : (mu 87 (nI a).toNatClampNeg) = lane) => ?_) (fun (c18 : ¬ (mu 87 (nI a).toNatClampNeg) = lane) => ?_)
    · skip
      refine o_aload_n dX5_refusalOf_24 rfl rfl (by rfl) ?_
      refine o_iload_n dX5_refusalOf_25 rfl rfl (by rfl) ?_
      refine o_iload_n dX5_refusalOf_26 rfl rfl (by rfl) ?_
      refine o_iload dX5_refusalOf_27 rfl (by rfl) ?_
      refine o_callV cs_X5_fits cv_X5_33 (c_X5_fits _ a ha i n) hq.2.2.2 (Nat.le_of_ble_eq_true rfl) dX5_refusalOf_29 rfl (by decide) (by rfl) (by rfl) (by rfl) rfl rfl (Nat.le_of_ble_eq_true rfl) (fun r2 mu2 h2 => ?_)
      obtain ⟨em, h2⟩ := h2
      rw [em]
      refine o_if_eq (tgt := 39) dX5_refusalOf_32 (by decide) rfl (fun (c32 : r2 = 0) => ?_) (fun (c32 : ¬ r2 = 0) => ?_)
      · skip
        have b32 := (if10 h2).1 c32
        refine o_bipush (v := (-13)) dX5_refusalOf_39 rfl (by decide) ?_
        exact o_iret hq dX5_refusalOf_41 ⟨rfl, by rw [ec] at c18; unfold refV; rw [if_neg (fun e => b5 (decide_eq_true e)), if_neg (fun h => h c18), if_neg b32]⟩
      · skip
        have b32 := (if10 h2).2 c32
        refine o_iconst (v := 0) dX5_refusalOf_35 rfl (by decide) ?_
        refine o_goto (tgt := 41) dX5_refusalOf_36 (by decide) ?_
        exact o_iret hq dX5_refusalOf_41 ⟨rfl, by rw [ec] at c18; unfold refV; rw [if_neg (fun e => b5 (decide_eq_true e)), if_neg (fun h => h c18), if_pos b32]⟩
    · skip
      refine o_bipush (v := (-12)) dX5_refusalOf_21 rfl (by decide) ?_
      exact o_iret hq dX5_refusalOf_23 ⟨rfl, by rw [ec] at c18; unfold refV; rw [if_neg (fun e => b5 (decide_eq_true e)), if_pos c18]⟩
  · skip
    have b5 := (if10 h1).2 c5
    refine o_bipush (v := (-11)) dX5_refusalOf_8 rfl (by decide) ?_
    exact o_iret hq dX5_refusalOf_10 ⟨rfl, by unfold refV; rw [if_pos (of_decide_eq_true b5)]⟩
set_option maxHeartbeats 4000000 in
set_option maxRecDepth 100000 in
theorem c_X5_makeRow (mu : Mu) (a : Nat) (ha : a < 4) (lane n : Int32) : ConV yX5_makeRow cX5_makeRow 4 1 [vC 86, vI (nI a), vI lane, vI n] mu (fun mu2 => (∀ q, q ≠ 87 → q ≠ 88 → q ≠ 90 + a → mu2 q = mu q) ∧ mu2 87 = upd (mu 87) a lane ∧ mu2 88 = upd (mu 88) a n ∧ ∀ j, j < 24 → mu2 (90 + a) j = 0) := by
  refine conV_of (own := RX5) (by decide) rfl (Nat.le_of_ble_eq_true rfl) (fun X g hq => ?_)
  show WA X g RX5 4 cX5_makeRow 0 [(0, vC 86), (1, vI (nI a)), (2, vI lane), (3, vI n)] [] mu
  have ec : (nI a).toNatClampNeg = a := nI_clamp (show a < 2 ^ 31 by omega)
  refine o_aload_n dX5_makeRow_0 rfl rfl (by rfl) ?_
  refine o_getC (q := 87) cl_X5_9 dX5_makeRow_1 rfl (by decide) (by rfl) (by rfl) ?_
  refine o_iload_n dX5_makeRow_4 rfl rfl (by rfl) ?_
  refine o_iload_n dX5_makeRow_5 rfl rfl (by rfl) ?_
  refine o_iast dX5_makeRow_6 rfl (by decide) (by rfl) (by rfl) (vp_in_nI ha (by decide)) ?_
  refine o_aload_n dX5_makeRow_7 rfl rfl (by rfl) ?_
  refine o_getC (q := 88) cl_X5_15 dX5_makeRow_8 rfl (by decide) (by rfl) (by rfl) ?_
  refine o_iload_n dX5_makeRow_11 rfl rfl (by rfl) ?_
  refine o_iload_n dX5_makeRow_12 rfl rfl (by rfl) ?_
  refine o_iast dX5_makeRow_13 rfl (by decide) (by rfl) (by rfl) (vp_in_nI ha (by decide)) ?_
  refine o_aload_n dX5_makeRow_14 rfl rfl (by rfl) ?_
  refine o_getC (q := 89) cl_X5_20 dX5_makeRow_15 rfl (by decide) (by rfl) (by rfl) ?_
  refine o_iload_n dX5_makeRow_18 rfl rfl (by rfl) ?_
  refine o_aald dX5_makeRow_19 rfl (by decide) (by rfl) (by rfl) (vp_in_nI ha (by decide)) ?_
  refine o_iconst (v := 0) dX5_makeRow_20 rfl (by decide) ?_
  refine o_callSV cs_J7_fill_53178 ct_X5_23 (c_J7_fill_53178 _ (90 + (nI a).toNatClampNeg) 24 (by rw [ec]; exact (rowZ a ha).1) (by rw [ec]; exact (rowZ a ha).2.1) (by rw [ec]; exact (rowZ a ha).2.2) (by decide) 0) hq.2.2.2 (Nat.le_of_ble_eq_true rfl) dX5_makeRow_21 rfl rfl rfl (Nat.le_of_ble_eq_true rfl) (fun mF hF => ?_)
  rw [ec] at hF
  exact o_vret hq dX5_makeRow_24 ⟨fun q h1 h2 h3 => by rw [hF.1 q h3, upF_k h2, upF_k h1], by rw [hF.1 87 (by omega)]; rfl, by rw [hF.1 88 (by omega)]; rfl, hF.2.1⟩
