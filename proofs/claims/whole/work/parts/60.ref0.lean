/-! ===== the reference: small ones ===== -/
theorem j_lt (x y : Int32) : x.toInt64 < y.toInt64 ↔ x < y := by rw [Int64.lt_iff_toInt_lt, Int32.lt_iff_toInt_lt, Int32.toInt_toInt64, Int32.toInt_toInt64]
def hsB (s c : Int32) : Bool := decide (¬ c < 0 ∧ ¬ s ≤ c)
theorem inB_hs {z : Nat} {c : Int32} (hz : z ≤ 100) : inB c 0 (nI z - 1) = hsB (nI z) c := by
  unfold inB hsB
  have e : (nI z - 1).toInt = (z : Int) - 1 := by
    have h := pk_sub_toInt (a := z) (b := 1) (by omega) (by decide)
    exact h
  have e2 : (nI z).toInt = z := nI_toInt (by omega)
  congr 1
  apply propext
  rw [i_lt, i_le, i_lt, e, e2]
  omega
theorem neg_sub0 (x : Int32) : -x = 0 - x := by rw [Int32.zero_sub]
set_option maxHeartbeats 4000000 in
set_option maxRecDepth 100000 in
theorem c_in (mu : Mu) (v l h : Int32) : Con yX9_in cX9_in 6 (some .boolean) 0 [vJ v.toInt64, vJ l.toInt64, vJ h.toInt64] mu (fun r mu2 => mu2 = mu ∧ r = if inB v l h = true then 1 else 0) := by
  refine con_of (own := RX9) (by decide) rfl (Nat.le_of_ble_eq_true rfl) (fun X g hq => ?_)
  show WA X g RX9 6 cX9_in 0 [(0, vJ v.toInt64), (2, vJ l.toInt64), (4, vJ h.toInt64)] [] mu
  refine o_lload_n dX9_in_0 rfl rfl (by rfl) ?_
  refine o_lload_n dX9_in_1 rfl rfl (by rfl) ?_
  refine o_lcmp dX9_in_2 rfl ?_
  refine o_if_lt (tgt := 17) dX9_in_3 (by decide) rfl (fun c3 => ?_) (fun c3 => ?_)
  · skip
    refine o_iconst (v := 0) dX9_in_17 rfl (by decide) ?_
    exact o_zret hq dX9_in_18 (Or.inl rfl) ⟨rfl, (if_neg (fun h9 => (inB_t h9).1 ((j_lt _ _).mp ((lg_cmp_lt _ _).mp c3)))).symm⟩
  · skip
    refine o_lload_n dX9_in_6 rfl rfl (by rfl) ?_
    refine o_lload dX9_in_7 rfl (by rfl) ?_
    refine o_lcmp dX9_in_9 rfl ?_
    refine o_if_gt (tgt := 17) dX9_in_10 (by decide) rfl (fun c10 => ?_) (fun c10 => ?_)
    · skip
      refine o_iconst (v := 0) dX9_in_17 rfl (by decide) ?_
      exact o_zret hq dX9_in_18 (Or.inl rfl) ⟨rfl, (if_neg (fun h9 => (inB_t h9).2 ((j_lt _ _).mp ((lg_cmp_gt _ _).mp c10)))).symm⟩
    · skip
      refine o_iconst (v := 1) dX9_in_13 rfl (by decide) ?_
      refine o_goto (tgt := 18) dX9_in_14 (by decide) ?_
      exact o_zret hq dX9_in_18 (Or.inr rfl) ⟨rfl, (if_pos (decide_eq_true ⟨fun h9 => c3 ((lg_cmp_lt _ _).mpr ((j_lt _ _).mpr h9)), fun h9 => c10 ((lg_cmp_gt _ _).mpr ((j_lt _ _).mpr h9))⟩)).symm⟩
set_option maxHeartbeats 4000000 in
set_option maxRecDepth 100000 in
theorem c_X9_isCup (mu : Mu) (nc : Nat) (hnc : nc ≤ 100) (enc : mu 94 1 = nI nc) (c : Int32) : Con yX9_isCup cX9_isCup 2 (some .boolean) 1 [vC 94, vI c] mu (fun r mu2 => mu2 = mu ∧ r = if hsB (nI nc) c = true then 1 else 0) := by
  refine con_of (own := RX9) (by decide) rfl (Nat.le_of_ble_eq_true rfl) (fun X g hq => ?_)
  show WA X g RX9 2 cX9_isCup 0 [(0, vC 94), (1, vI c)] [] mu
  refine o_iload_n dX9_isCup_0 rfl rfl (by rfl) ?_
  refine o_i2l dX9_isCup_1 rfl ?_
  refine o_lconst (v := 0) dX9_isCup_2 rfl (by decide) ?_
  refine o_aload_n dX9_isCup_3 rfl rfl (by rfl) ?_
  refine o_getI cl_X9_68 dX9_isCup_4 rfl (by decide) (by rfl) (by rfl) ?_
  refine o_iconst (v := 1) dX9_isCup_7 rfl (by decide) ?_
  refine o_isub dX9_isCup_8 rfl ?_
  refine o_i2l dX9_isCup_9 rfl ?_
  refine o_callS cs_X9_in ct_X9_71 (c_in _ c 0 (mu 94 1 - 1)) hq.2.2.2 (Nat.le_of_ble_eq_true rfl) dX9_isCup_10 rfl rfl rfl (Nat.le_of_ble_eq_true rfl) (fun rI mu1 hI => ?_)
  obtain ⟨em, hI⟩ := hI
  rw [em]
  rw [enc, inB_hs hnc] at hI
  exact o_zret hq dX9_isCup_13 (by rw [hI]; split; exact Or.inr rfl; exact Or.inl rfl) ⟨rfl, hI⟩
set_option maxHeartbeats 4000000 in
set_option maxRecDepth 100000 in
theorem c_X9_size (mu : Mu) (x : Int32) : Con yX9_size cX9_size 1 (some .int) 0 [vI x] mu (fun r mu2 => mu2 = mu ∧ r = ab x) := by
  refine con_of (own := RX9) (by decide) rfl (Nat.le_of_ble_eq_true rfl) (fun X g hq => ?_)
  show WA X g RX9 1 cX9_size 0 [(0, vI x)] [] mu
  refine o_iload_n dX9_size_0 rfl rfl (by rfl) ?_
  refine o_if_ge (tgt := 9) dX9_size_1 (by decide) rfl (fun (c1 : 0 ≤ x) => ?_) (fun (c1 : ¬ 0 ≤ x) => ?_)
  · skip
    refine o_iload_n dX9_size_9 rfl rfl (by rfl) ?_
    exact o_iret hq dX9_size_10 ⟨rfl, (if_pos c1).symm⟩
  · skip
    refine o_iload_n dX9_size_4 rfl rfl (by rfl) ?_
    refine o_ineg dX9_size_5 rfl ?_
    refine o_goto (tgt := 10) dX9_size_6 (by decide) ?_
    exact o_iret hq dX9_size_10 ⟨rfl, (neg_sub0 x).trans (if_neg c1).symm⟩
set_option maxHeartbeats 4000000 in
set_option maxRecDepth 100000 in
theorem c_X9_isSheet (mu : Mu) (x : Int32) : Con yX9_isSheet cX9_isSheet 1 (some .boolean) 1 [vI x] mu (fun r mu2 => mu2 = mu ∧ r = if inB x 0 3 = true then 1 else 0) := by
  refine con_of (own := RX9) (by decide) rfl (Nat.le_of_ble_eq_true rfl) (fun X g hq => ?_)
  show WA X g RX9 1 cX9_isSheet 0 [(0, vI x)] [] mu
  refine o_iload_n dX9_isSheet_0 rfl rfl (by rfl) ?_
  refine o_i2l dX9_isSheet_1 rfl ?_
  refine o_lconst (v := 0) dX9_isSheet_2 rfl (by decide) ?_
  refine o_ldc2 dX9_isSheet_3 rfl kc_X9_225 ?_
  refine o_callS cs_X9_in ct_X9_71 (c_in _ x 0 3) hq.2.2.2 (Nat.le_of_ble_eq_true rfl) dX9_isSheet_6 rfl rfl rfl (Nat.le_of_ble_eq_true rfl) (fun rI mu1 hI => ?_)
  obtain ⟨em, hI⟩ := hI
  rw [em]
  exact o_zret hq dX9_isSheet_9 (by rw [hI]; split; exact Or.inr rfl; exact Or.inl rfl) ⟨rfl, hI⟩
set_option maxHeartbeats 4000000 in
set_option maxRecDepth 100000 in
theorem c_X9_isLane (mu : Mu) (x : Int32) : Con yX9_isLane cX9_isLane 1 (some .boolean) 1 [vI x] mu (fun r mu2 => mu2 = mu ∧ r = if inB x 0 2 = true then 1 else 0) := by
  refine con_of (own := RX9) (by decide) rfl (Nat.le_of_ble_eq_true rfl) (fun X g hq => ?_)
  show WA X g RX9 1 cX9_isLane 0 [(0, vI x)] [] mu
  refine o_iload_n dX9_isLane_0 rfl rfl (by rfl) ?_
  refine o_i2l dX9_isLane_1 rfl ?_
  refine o_lconst (v := 0) dX9_isLane_2 rfl (by decide) ?_
  refine o_ldc2 dX9_isLane_3 rfl kc_X9_75 ?_
  refine o_callS cs_X9_in ct_X9_71 (c_in _ x 0 2) hq.2.2.2 (Nat.le_of_ble_eq_true rfl) dX9_isLane_6 rfl rfl rfl (Nat.le_of_ble_eq_true rfl) (fun rI mu1 hI => ?_)
  obtain ⟨em, hI⟩ := hI
  rw [em]
  exact o_zret hq dX9_isLane_9 (by rw [hI]; split; exact Or.inr rfl; exact Or.inl rfl) ⟨rfl, hI⟩
set_option maxHeartbeats 4000000 in
set_option maxRecDepth 100000 in
theorem c_X9_cast (mu : Mu) (l v : Int32) : Con yX9_cast cX9_cast 2 (some .int) 0 [vI l, vI v] mu (fun r mu2 => mu2 = mu ∧ r = cutV l v) := by
  refine con_of (own := RX9) (by decide) rfl (Nat.le_of_ble_eq_true rfl) (fun X g hq => ?_)
  show WA X g RX9 2 cX9_cast 0 [(0, vI l), (1, vI v)] [] mu
  refine o_iload_n dX9_cast_0 rfl rfl (by rfl) ?_
  refine o_if_ne (tgt := 9) dX9_cast_1 (by decide) rfl (fun (c1 : ¬ l = 0) => ?_) (fun (c1 : l = 0) => ?_)
  · skip
    refine o_iload_n dX9_cast_9 rfl rfl (by rfl) ?_
    refine o_iconst (v := 1) dX9_cast_10 rfl (by decide) ?_
    refine o_icmp_ne (tgt := 19) dX9_cast_11 (by decide) rfl (fun (c11 : ¬ l = 1) => ?_) (fun (c11 : l = 1) => ?_)
    · skip
      refine o_iload_n dX9_cast_19 rfl rfl (by rfl) ?_
      exact o_iret hq dX9_cast_20 ⟨rfl, ((if_neg c1).trans (if_neg c11)).symm⟩
    · skip
      refine o_iload_n dX9_cast_14 rfl rfl (by rfl) ?_
      refine o_i2s dX9_cast_15 rfl ?_
      refine o_goto (tgt := 20) dX9_cast_16 (by decide) ?_
      exact o_iret hq dX9_cast_20 ⟨rfl, ((if_neg c1).trans (if_pos c11)).symm⟩
  · skip
    refine o_iload_n dX9_cast_4 rfl rfl (by rfl) ?_
    refine o_i2b dX9_cast_5 rfl ?_
    refine o_goto (tgt := 20) dX9_cast_6 (by decide) ?_
    exact o_iret hq dX9_cast_20 ⟨rfl, (if_pos c1).symm⟩
theorem set_b {what v lo hi : Int32} (h : inB what 0 2 = true) (hl : leastS what.toNatClampNeg = lo) (hm : mostS what.toNatClampNeg = hi) : inB v (leastS what.toNatClampNeg) (mostS what.toNatClampNeg) = inB v lo hi := by rw [hl, hm]
theorem set_w {what : Int32} (h : inB what 0 2 = true) : what = 0 ∨ what = 1 ∨ what = 2 := by
  obtain ⟨k, e, -, h2⟩ := inB_nI (l := 0) (m := 2) (by decide) (by decide) h
  match k, h2, e with
  | 0, _, e => exact Or.inl e
  | 1, _, e => exact Or.inr (Or.inl e)
  | 2, _, e => exact Or.inr (Or.inr e)
theorem set_2 {what : Int32} (h : inB what 0 2 = true) (h0 : ¬ what = 0) (h1 : ¬ what = 1) : what = 2 := (set_w h).elim (fun e => absurd e h0) (fun h => h.elim (fun e => absurd e h1) id)
set_option maxHeartbeats 4000000 in
set_option maxRecDepth 100000 in
theorem c_X9_set (mu : Mu) (what v : Int32) : Con yX9_set cX9_set 4 (some .int) 1 [vC 94, vI what, vI v] mu (fun r mu2 => ((inB what 0 2 && inB v (leastS what.toNatClampNeg) (mostS what.toNatClampNeg)) = true ∧ r = mu 95 what.toNatClampNeg ∧ mu2 = upF mu 95 what.toNatClampNeg v) ∨ ((inB what 0 2 && inB v (leastS what.toNatClampNeg) (mostS what.toNatClampNeg)) = false ∧ r = -1 ∧ mu2 = mu)) := by
  refine con_of (own := RX9) (by decide) rfl (Nat.le_of_ble_eq_true rfl) (fun X g hq => ?_)
  show WA X g RX9 4 cX9_set 0 [(0, vC 94), (1, vI what), (2, vI v)] [] mu
  refine o_iload_n dX9_set_0 rfl rfl (by rfl) ?_
  refine o_i2l dX9_set_1 rfl ?_
  refine o_lconst (v := 0) dX9_set_2 rfl (by decide) ?_
  refine o_ldc2 dX9_set_3 rfl kc_X9_75 ?_
  refine o_callS cs_X9_in ct_X9_71 (c_in _ what 0 2) hq.2.2.2 (Nat.le_of_ble_eq_true rfl) dX9_set_6 rfl rfl rfl (Nat.le_of_ble_eq_true rfl) (fun r1 mu1 h1 => ?_)
  obtain ⟨em, h1⟩ := h1
  rw [em]
  refine o_if_eq (tgt := 64) dX9_set_9 (by decide) rfl (fun (c9 : r1 = 0) => ?_) (fun (c9 : ¬ r1 = 0) => ?_)
  · skip
    have b9 := (if10 h1).1 c9
    refine o_iconst (v := (-1)) dX9_set_64 rfl (by decide) ?_
    exact o_iret hq dX9_set_65 (Or.inr ⟨by rw [Bool.eq_false_iff.mpr b9, Bool.false_and], rfl, rfl⟩)
  · skip
    have b9 := (if10 h1).2 c9
    obtain ⟨wk, ewk, -, hwk⟩ := inB_nI (l := 0) (m := 2) (by decide) (by decide) b9
    refine o_iload_n dX9_set_12 rfl rfl (by rfl) ?_
    refine o_i2l dX9_set_13 rfl ?_
    refine o_iload_n dX9_set_14 rfl rfl (by rfl) ?_
    refine o_if_ne (tgt := 24) dX9_set_15 (by decide) rfl (fun (c15 : ¬ what = 0) => ?_) (fun (c15 : what = 0) => ?_)
    · skip
      refine o_iload_n dX9_set_24 rfl rfl (by rfl) ?_
      refine o_iconst (v := 1) dX9_set_25 rfl (by decide) ?_
      refine o_icmp_ne (tgt := 33) dX9_set_26 (by decide) rfl (fun (c26 : ¬ what = 1) => ?_) (fun (c26 : what = 1) => ?_)
      · skip
        refine o_lconst (v := 0) dX9_set_33 rfl (by decide) ?_
        refine o_iload_n dX9_set_34 rfl rfl (by rfl) ?_
        refine o_if_ne (tgt := 44) dX9_set_35 (by decide) rfl (fun (c35 : ¬ what = 0) => ?_) (fun (c35 : what = 0) => ?_)
        · skip
          refine o_iload_n dX9_set_44 rfl rfl (by rfl) ?_
          refine o_iconst (v := 1) dX9_set_45 rfl (by decide) ?_
          refine o_icmp_ne (tgt := 55) dX9_set_46 (by decide) rfl (fun (c46 : ¬ what = 1) => ?_) (fun (c46 : what = 1) => ?_)
          · skip
            refine o_ldc2 dX9_set_55 rfl kc_X9_83 ?_
            refine o_callS cs_X9_in ct_X9_71 (c_in _ v 0 20) hq.2.2.2 (Nat.le_of_ble_eq_true rfl) dX9_set_58 rfl rfl rfl (Nat.le_of_ble_eq_true rfl) (fun r2 mu2 h2 => ?_)
            obtain ⟨em, h2⟩ := h2
            rw [em]
            refine o_if_ne (tgt := 66) dX9_set_61 (by decide) rfl (fun (c61 : ¬ r2 = 0) => ?_) (fun (c61 : r2 = 0) => ?_)
            · skip
              have b61 := (if10 h2).2 c61
              refine o_aload_n dX9_set_66 rfl rfl (by rfl) ?_
              refine o_getC (q := 95) cl_X9_7 dX9_set_67 rfl (by decide) (by rfl) (by rfl) ?_
              refine o_iload_n dX9_set_70 rfl rfl (by rfl) ?_
              refine o_iald dX9_set_71 rfl (by decide) (by rfl) (by rfl) (by rw [ewk]; exact vp_in_nI (by omega) (by decide)) ?_
              refine o_istore_n (L' := [(0, vC 94), (1, vI what), (2, vI v), (3, vI (mu 95 what.toNatClampNeg))]) dX9_set_72 rfl rfl (by decide) (by rfl) (by rfl) ?_
              refine o_aload_n dX9_set_73 rfl rfl (by rfl) ?_
              refine o_getC (q := 95) cl_X9_7 dX9_set_74 rfl (by decide) (by rfl) (by rfl) ?_
              refine o_iload_n dX9_set_77 rfl rfl (by rfl) ?_
              refine o_iload_n dX9_set_78 rfl rfl (by rfl) ?_
              refine o_iast dX9_set_79 rfl (by decide) (by rfl) (by rfl) (by rw [ewk]; exact vp_in_nI (by omega) (by decide)) ?_
              refine o_iload_n dX9_set_80 rfl rfl (by rfl) ?_
              exact o_iret hq dX9_set_81 (Or.inl ⟨by rw [show inB v (leastS what.toNatClampNeg) (mostS what.toNatClampNeg) = inB v 0 20 by rw [(set_2 b9 c15 c26)]; rfl, b61, b9]; rfl, rfl, rfl⟩)
            · skip
              have b61 := (if10 h2).1 c61
              refine o_iconst (v := (-1)) dX9_set_64 rfl (by decide) ?_
              exact o_iret hq dX9_set_65 (Or.inr ⟨by rw [show inB v (leastS what.toNatClampNeg) (mostS what.toNatClampNeg) = inB v 0 20 by rw [(set_2 b9 c15 c26)]; rfl, Bool.eq_false_iff.mpr b61, Bool.and_false], rfl, rfl⟩)
          · skip
            exact absurd c46 c26
        · skip
          exact absurd c35 c15
      · skip
        refine o_lconst (v := 1) dX9_set_29 rfl (by decide) ?_
        refine o_goto (tgt := 34) dX9_set_30 (by decide) ?_
        refine o_iload_n dX9_set_34 rfl rfl (by rfl) ?_
        refine o_if_ne (tgt := 44) dX9_set_35 (by decide) rfl (fun (c35 : ¬ what = 0) => ?_) (fun (c35 : what = 0) => ?_)
        · skip
          refine o_iload_n dX9_set_44 rfl rfl (by rfl) ?_
          refine o_iconst (v := 1) dX9_set_45 rfl (by decide) ?_
          refine o_icmp_ne (tgt := 55) dX9_set_46 (by decide) rfl (fun (c46 : ¬ what = 1) => ?_) (fun (c46 : what = 1) => ?_)
          · skip
            exact absurd c26 c46
          · skip
            refine o_ldc2 dX9_set_49 rfl kc_X9_81 ?_
            refine o_goto (tgt := 58) dX9_set_52 (by decide) ?_
            refine o_callS cs_X9_in ct_X9_71 (c_in _ v 1 4) hq.2.2.2 (Nat.le_of_ble_eq_true rfl) dX9_set_58 rfl rfl rfl (Nat.le_of_ble_eq_true rfl) (fun r3 mu3 h3 => ?_)
            obtain ⟨em, h3⟩ := h3
            rw [em]
            refine o_if_ne (tgt := 66) dX9_set_61 (by decide) rfl (fun (c61 : ¬ r3 = 0) => ?_) (fun (c61 : r3 = 0) => ?_)
            · skip
              have b61 := (if10 h3).2 c61
              refine o_aload_n dX9_set_66 rfl rfl (by rfl) ?_
              refine o_getC (q := 95) cl_X9_7 dX9_set_67 rfl (by decide) (by rfl) (by rfl) ?_
              refine o_iload_n dX9_set_70 rfl rfl (by rfl) ?_
              refine o_iald dX9_set_71 rfl (by decide) (by rfl) (by rfl) (by rw [ewk]; exact vp_in_nI (by omega) (by decide)) ?_
              refine o_istore_n (L' := [(0, vC 94), (1, vI what), (2, vI v), (3, vI (mu 95 what.toNatClampNeg))]) dX9_set_72 rfl rfl (by decide) (by rfl) (by rfl) ?_
              refine o_aload_n dX9_set_73 rfl rfl (by rfl) ?_
              refine o_getC (q := 95) cl_X9_7 dX9_set_74 rfl (by decide) (by rfl) (by rfl) ?_
              refine o_iload_n dX9_set_77 rfl rfl (by rfl) ?_
              refine o_iload_n dX9_set_78 rfl rfl (by rfl) ?_
              refine o_iast dX9_set_79 rfl (by decide) (by rfl) (by rfl) (by rw [ewk]; exact vp_in_nI (by omega) (by decide)) ?_
              refine o_iload_n dX9_set_80 rfl rfl (by rfl) ?_
              exact o_iret hq dX9_set_81 (Or.inl ⟨by rw [show inB v (leastS what.toNatClampNeg) (mostS what.toNatClampNeg) = inB v 1 4 by rw [c26]; rfl, b61, b9]; rfl, rfl, rfl⟩)
            · skip
              have b61 := (if10 h3).1 c61
              refine o_iconst (v := (-1)) dX9_set_64 rfl (by decide) ?_
              exact o_iret hq dX9_set_65 (Or.inr ⟨by rw [show inB v (leastS what.toNatClampNeg) (mostS what.toNatClampNeg) = inB v 1 4 by rw [c26]; rfl, Bool.eq_false_iff.mpr b61, Bool.and_false], rfl, rfl⟩)
        · skip
          exact absurd c35 c15
    · skip
      refine o_ldc2 dX9_set_18 rfl kc_X9_77 ?_
      refine o_goto (tgt := 34) dX9_set_21 (by decide) ?_
      refine o_iload_n dX9_set_34 rfl rfl (by rfl) ?_
      refine o_if_ne (tgt := 44) dX9_set_35 (by decide) rfl (fun (c35 : ¬ what = 0) => ?_) (fun (c35 : what = 0) => ?_)
      · skip
        exact absurd c15 c35
      · skip
        refine o_ldc2 dX9_set_38 rfl kc_X9_79 ?_
        refine o_goto (tgt := 58) dX9_set_41 (by decide) ?_
        refine o_callS cs_X9_in ct_X9_71 (c_in _ v 10 60) hq.2.2.2 (Nat.le_of_ble_eq_true rfl) dX9_set_58 rfl rfl rfl (Nat.le_of_ble_eq_true rfl) (fun r4 mu4 h4 => ?_)
        obtain ⟨em, h4⟩ := h4
        rw [em]
        refine o_if_ne (tgt := 66) dX9_set_61 (by decide) rfl (fun (c61 : ¬ r4 = 0) => ?_) (fun (c61 : r4 = 0) => ?_)
        · skip
          have b61 := (if10 h4).2 c61
          refine o_aload_n dX9_set_66 rfl rfl (by rfl) ?_
          refine o_getC (q := 95) cl_X9_7 dX9_set_67 rfl (by decide) (by rfl) (by rfl) ?_
          refine o_iload_n dX9_set_70 rfl rfl (by rfl) ?_
          refine o_iald dX9_set_71 rfl (by decide) (by rfl) (by rfl) (by rw [ewk]; exact vp_in_nI (by omega) (by decide)) ?_
          refine o_istore_n (L' := [(0, vC 94), (1, vI what), (2, vI v), (3, vI (mu 95 what.toNatClampNeg))]) dX9_set_72 rfl rfl (by decide) (by rfl) (by rfl) ?_
          refine o_aload_n dX9_set_73 rfl rfl (by rfl) ?_
          refine o_getC (q := 95) cl_X9_7 dX9_set_74 rfl (by decide) (by rfl) (by rfl) ?_
          refine o_iload_n dX9_set_77 rfl rfl (by rfl) ?_
          refine o_iload_n dX9_set_78 rfl rfl (by rfl) ?_
          refine o_iast dX9_set_79 rfl (by decide) (by rfl) (by rfl) (by rw [ewk]; exact vp_in_nI (by omega) (by decide)) ?_
          refine o_iload_n dX9_set_80 rfl rfl (by rfl) ?_
          exact o_iret hq dX9_set_81 (Or.inl ⟨by rw [show inB v (leastS what.toNatClampNeg) (mostS what.toNatClampNeg) = inB v 10 60 by rw [c15]; rfl, b61, b9]; rfl, rfl, rfl⟩)
        · skip
          have b61 := (if10 h4).1 c61
          refine o_iconst (v := (-1)) dX9_set_64 rfl (by decide) ?_
          exact o_iret hq dX9_set_65 (Or.inr ⟨by rw [show inB v (leastS what.toNatClampNeg) (mostS what.toNatClampNeg) = inB v 10 60 by rw [c15]; rfl, Bool.eq_false_iff.mpr b61, Bool.and_false], rfl, rfl⟩)
