/-! ===== the reference: at, end, ends, odds, which, cord, down, mended ===== -/
abbrev RB (mu : Mu) (nc np : Nat) : Prop := TOKA mu (aC mu (mu 2 0)) nc np
theorem RB.np {mu : Mu} {nc np : Nat} (h : RB mu nc np) : mu 94 3 = nI np ∧ np ≤ 6 ∧ mu 9 2 = nI np := ⟨h.2.1.2.2.2.1, h.2.1.2.2.2.2.1, h.2.1.2.2.1⟩
theorem RB.nc {mu : Mu} {nc np : Nat} (h : RB mu nc np) : mu 94 1 = nI nc ∧ nc ≤ 4 ∧ mu 3 2 = nI nc := ⟨h.2.1.2.1.2.1, h.2.1.2.1.2.2.1, h.2.1.2.1.1⟩
theorem RB.z {mu : Mu} {nc np : Nat} (h : RB mu nc np) : mu 94 3 = 0 ↔ mu 9 2 = 0 := by rw [h.np.1, h.np.2.2]
theorem RB.p {mu : Mu} {nc np : Nat} (h : RB mu nc np) (h2 : ¬ mu 94 3 = 0) : 0 < np := by
  by_cases e : np = 0
  · exact absurd (by rw [h.np.1, e]; rfl) h2
  · omega
set_option maxHeartbeats 4000000 in
set_option maxRecDepth 100000 in
theorem c_X9_at (mu : Mu) (nc np : Nat) (hA : RB mu nc np) (stp what : Int32) : Con yX9_at cX9_at 3 (some .int) 3 [vC 94, vI stp, vI what] mu (fun r mu2 => ((inB stp 0 99 && inB what 0 8) = true ∧ frR mu mu2 ∧ ∃ k, stp = nI k ∧ k ≤ 99 ∧ r = tvT mu (k + 1) what.toNatClampNeg) ∨ ((inB stp 0 99 && inB what 0 8) = false ∧ r = -100001 ∧ mu2 = mu)) := by
  refine con_of (own := RX9) (by decide) rfl (Nat.le_of_ble_eq_true rfl) (fun X g hq => ?_)
  show WA X g RX9 3 cX9_at 0 [(0, vC 94), (1, vI stp), (2, vI what)] [] mu
  refine o_iload_n dX9_at_0 rfl rfl (by rfl) ?_
  refine o_i2l dX9_at_1 rfl ?_
  refine o_lconst (v := 0) dX9_at_2 rfl (by decide) ?_
  refine o_ldc2 dX9_at_3 rfl kc_X9_89 ?_
  refine o_callS cs_X9_in ct_X9_71 (c_in _ stp 0 99) hq.2.2.2 (Nat.le_of_ble_eq_true rfl) dX9_at_6 rfl rfl rfl (Nat.le_of_ble_eq_true rfl) (fun r1 mu1 h1 => ?_)
  obtain ⟨em, h1⟩ := h1
  rw [em]
  refine o_if_eq (tgt := 24) dX9_at_9 (by decide) rfl (fun (c9 : r1 = 0) => ?_) (fun (c9 : ¬ r1 = 0) => ?_)
  · skip
    have b9 := (if10 h1).1 c9
    refine o_ldc dX9_at_24 rfl kc_X9_99 ?_
    exact o_iret hq dX9_at_26 (Or.inr ⟨by simp [b9], rfl, rfl⟩)
  · skip
    have b9 := (if10 h1).2 c9
    refine o_iload_n dX9_at_12 rfl rfl (by rfl) ?_
    refine o_i2l dX9_at_13 rfl ?_
    refine o_lconst (v := 0) dX9_at_14 rfl (by decide) ?_
    refine o_ldc2 dX9_at_15 rfl kc_X9_107 ?_
    refine o_callS cs_X9_in ct_X9_71 (c_in _ what 0 8) hq.2.2.2 (Nat.le_of_ble_eq_true rfl) dX9_at_18 rfl rfl rfl (Nat.le_of_ble_eq_true rfl) (fun r2 mu2 h2 => ?_)
    obtain ⟨em, h2⟩ := h2
    rw [em]
    refine o_if_ne (tgt := 27) dX9_at_21 (by decide) rfl (fun (c21 : ¬ r2 = 0) => ?_) (fun (c21 : r2 = 0) => ?_)
    · skip
      have b21 := (if10 h2).2 c21
      refine o_aload_n dX9_at_27 rfl rfl (by rfl) ?_
      refine o_callVV cs_X9_tries cv_X9_222 (c_tries _ _ nc np hA) hq.2.2.2 (Nat.le_of_ble_eq_true rfl) dX9_at_28 rfl (by decide) (by rfl) (by rfl) (by rfl) rfl rfl (Nat.le_of_ble_eq_true rfl) (fun mT hT => ?_)
      obtain ⟨k, ek, -, hk⟩ := inB_nI (l := 0) (m := 99) (by decide) (by decide) b9
      obtain ⟨j, ej, -, hj⟩ := inB_nI (l := 0) (m := 8) (by decide) (by decide) b21
      refine o_aload_n dX9_at_31 rfl rfl (by rfl) ?_
      refine o_getC (q := 101) cl_X9_28 dX9_at_32 rfl (by decide) (by rfl) (by rfl) ?_
      refine o_bipush (v := 9) dX9_at_35 rfl (by decide) ?_
      refine o_iload_n dX9_at_37 rfl rfl (by rfl) ?_
      refine o_imul dX9_at_38 rfl ?_
      refine o_iload_n dX9_at_39 rfl rfl (by rfl) ?_
      refine o_iadd dX9_at_40 rfl ?_
      refine o_iald dX9_at_41 rfl (by decide) (by rfl) (by rfl) (by rw [ek, ej]; exact ixb (a := 9) (by omega) (by decide)) ?_
      exact o_iret hq dX9_at_42 (Or.inl ⟨by simp [b9, b21], hT.1, k, ek, hk, by rw [ek, ej, nI_clamp (by omega)]; exact (congrArg (mT 101) (ixl (a := 9) (by omega))).trans (hT.2.2.1 k (by omega) j (by omega))⟩)
    · skip
      have b21 := (if10 h2).1 c21
      refine o_ldc dX9_at_24 rfl kc_X9_99 ?_
      exact o_iret hq dX9_at_26 (Or.inr ⟨by simp [b9, b21], rfl, rfl⟩)
set_option maxHeartbeats 4000000 in
set_option maxRecDepth 100000 in
theorem c_X9_end (mu : Mu) (nc np : Nat) (hA : RB mu nc np) (what : Int32) : Con yX9_end cX9_end 2 (some .int) 3 [vC 94, vI what] mu (fun r mu2 => (inB what 0 3 = true ∧ frR mu mu2 ∧ r = endV (tvT mu 100) what) ∨ (inB what 0 3 = false ∧ r = -1 ∧ mu2 = mu)) := by
  refine con_of (own := RX9) (by decide) rfl (Nat.le_of_ble_eq_true rfl) (fun X g hq => ?_)
  show WA X g RX9 2 cX9_end 0 [(0, vC 94), (1, vI what)] [] mu
  refine o_iload_n dX9_end_0 rfl rfl (by rfl) ?_
  refine o_i2l dX9_end_1 rfl ?_
  refine o_lconst (v := 0) dX9_end_2 rfl (by decide) ?_
  refine o_ldc2 dX9_end_3 rfl kc_X9_225 ?_
  refine o_callS cs_X9_in ct_X9_71 (c_in _ what 0 3) hq.2.2.2 (Nat.le_of_ble_eq_true rfl) dX9_end_6 rfl rfl rfl (Nat.le_of_ble_eq_true rfl) (fun r1 mu1 h1 => ?_)
  obtain ⟨em, h1⟩ := h1
  rw [em]
  refine o_if_ne (tgt := 14) dX9_end_9 (by decide) rfl (fun (c9 : ¬ r1 = 0) => ?_) (fun (c9 : r1 = 0) => ?_)
  · skip
    have b9 := (if10 h1).2 c9
    refine o_aload_n dX9_end_14 rfl rfl (by rfl) ?_
    refine o_callVV cs_X9_tries cv_X9_222 (c_tries _ _ nc np hA) hq.2.2.2 (Nat.le_of_ble_eq_true rfl) dX9_end_15 rfl (by decide) (by rfl) (by rfl) (by rfl) rfl rfl (Nat.le_of_ble_eq_true rfl) (fun mT hT => ?_)
    refine o_iload_n dX9_end_18 rfl rfl (by rfl) ?_
    refine o_if_ne (tgt := 29) dX9_end_19 (by decide) rfl (fun (c19 : ¬ what = 0) => ?_) (fun (c19 : what = 0) => ?_)
    · skip
      refine o_iload_n dX9_end_29 rfl rfl (by rfl) ?_
      refine o_iconst (v := 1) dX9_end_30 rfl (by decide) ?_
      refine o_icmp_ne (tgt := 41) dX9_end_31 (by decide) rfl (fun (c31 : ¬ what = 1) => ?_) (fun (c31 : what = 1) => ?_)
      · skip
        refine o_iload_n dX9_end_41 rfl rfl (by rfl) ?_
        refine o_iconst (v := 2) dX9_end_42 rfl (by decide) ?_
        refine o_icmp_ne (tgt := 53) dX9_end_43 (by decide) rfl (fun (c43 : ¬ what = 2) => ?_) (fun (c43 : what = 2) => ?_)
        · skip
          refine o_aload_n dX9_end_53 rfl rfl (by rfl) ?_
          refine o_getI cl_X9_191 dX9_end_54 rfl (by decide) (by rfl) (by rfl) ?_
          exact o_iret hq dX9_end_57 (Or.inl ⟨b9, hT.1, by rw [hT.2.2.2.2.2.2.1]; exact (((if_neg c19).trans (if_neg c31)).trans (if_neg c43)).symm⟩)
        · skip
          refine o_aload_n dX9_end_46 rfl rfl (by rfl) ?_
          refine o_getI cl_X9_206 dX9_end_47 rfl (by decide) (by rfl) (by rfl) ?_
          refine o_goto (tgt := 57) dX9_end_50 (by decide) ?_
          exact o_iret hq dX9_end_57 (Or.inl ⟨b9, hT.1, by rw [hT.2.2.2.2.2.1, c43]; rfl⟩)
      · skip
        refine o_aload_n dX9_end_34 rfl rfl (by rfl) ?_
        refine o_getI cl_X9_203 dX9_end_35 rfl (by decide) (by rfl) (by rfl) ?_
        refine o_goto (tgt := 57) dX9_end_38 (by decide) ?_
        exact o_iret hq dX9_end_57 (Or.inl ⟨b9, hT.1, by rw [hT.2.2.2.2.1, c31]; rfl⟩)
    · skip
      refine o_aload_n dX9_end_22 rfl rfl (by rfl) ?_
      refine o_getI cl_X9_200 dX9_end_23 rfl (by decide) (by rfl) (by rfl) ?_
      refine o_goto (tgt := 57) dX9_end_26 (by decide) ?_
      exact o_iret hq dX9_end_57 (Or.inl ⟨b9, hT.1, by rw [hT.2.2.2.1, c19]; rfl⟩)
  · skip
    have b9 := (if10 h1).1 c9
    refine o_iconst (v := (-1)) dX9_end_12 rfl (by decide) ?_
    exact o_iret hq dX9_end_13 (Or.inr ⟨by simp [b9], rfl, rfl⟩)
set_option maxHeartbeats 4000000 in
set_option maxRecDepth 100000 in
theorem c_X9_ends (mu : Mu) (nc np : Nat) (hA : RB mu nc np) (u v : Int32) : Con yX9_ends cX9_ends 3 (some .int) 4 [vC 94, vI u, vI v] mu (fun r mu2 => ((inB u (-4) 4 && inB v 0 9) = false ∧ r = -1 ∧ mu2 = mu) ∨ ((inB u (-4) 4 && inB v 0 9) = true ∧ mu 9 2 = 0 ∧ r = -2 ∧ mu2 = mu) ∨ ((inB u (-4) 4 && inB v 0 9) = true ∧ ¬ mu 9 2 = 0 ∧ frR mu mu2 ∧ r = cn (tv mu (mu 2 0) u v 1 (-1) 0 100 9))) := by
  refine con_of (own := RX9) (by decide) rfl (Nat.le_of_ble_eq_true rfl) (fun X g hq => ?_)
  show WA X g RX9 3 cX9_ends 0 [(0, vC 94), (1, vI u), (2, vI v)] [] mu
  refine o_iload_n dX9_ends_0 rfl rfl (by rfl) ?_
  refine o_i2l dX9_ends_1 rfl ?_
  refine o_ldc2 dX9_ends_2 rfl kc_X9_230 ?_
  refine o_ldc2 dX9_ends_5 rfl kc_X9_81 ?_
  refine o_callS cs_X9_in ct_X9_71 (c_in _ u (-4) 4) hq.2.2.2 (Nat.le_of_ble_eq_true rfl) dX9_ends_8 rfl rfl rfl (Nat.le_of_ble_eq_true rfl) (fun r1 mu1 h1 => ?_)
  obtain ⟨em, h1⟩ := h1
  rw [em]
  refine o_if_eq (tgt := 26) dX9_ends_11 (by decide) rfl (fun (c11 : r1 = 0) => ?_) (fun (c11 : ¬ r1 = 0) => ?_)
  · skip
    have b11 := (if10 h1).1 c11
    refine o_iconst (v := (-1)) dX9_ends_26 rfl (by decide) ?_
    exact o_iret hq dX9_ends_27 (Or.inl ⟨by simp [b11], rfl, rfl⟩)
  · skip
    have b11 := (if10 h1).2 c11
    refine o_iload_n dX9_ends_14 rfl rfl (by rfl) ?_
    refine o_i2l dX9_ends_15 rfl ?_
    refine o_lconst (v := 0) dX9_ends_16 rfl (by decide) ?_
    refine o_ldc2 dX9_ends_17 rfl kc_X9_87 ?_
    refine o_callS cs_X9_in ct_X9_71 (c_in _ v 0 9) hq.2.2.2 (Nat.le_of_ble_eq_true rfl) dX9_ends_20 rfl rfl rfl (Nat.le_of_ble_eq_true rfl) (fun r2 mu2 h2 => ?_)
    obtain ⟨em, h2⟩ := h2
    rw [em]
    refine o_if_ne (tgt := 28) dX9_ends_23 (by decide) rfl (fun (c23 : ¬ r2 = 0) => ?_) (fun (c23 : r2 = 0) => ?_)
    · skip
      have b23 := (if10 h2).2 c23
      refine o_aload_n dX9_ends_28 rfl rfl (by rfl) ?_
      refine o_getI cl_X9_100 dX9_ends_29 rfl (by decide) (by rfl) (by rfl) ?_
      refine o_if_ne (tgt := 40) dX9_ends_32 (by decide) rfl (fun (c32 : ¬ (mu 94 3) = 0) => ?_) (fun (c32 : (mu 94 3) = 0) => ?_)
      · skip
        have hu : rg u (-10) 10 := by have h := inB_rg (l := -4) (m := 4) b11 (by decide) (by decide) (by decide) (by decide); exact ⟨by have := h.1; omega, by have := h.2; omega⟩
        have hv : rg v (-10) 10 := by have h := inB_rg (l := 0) (m := 9) b23 (by decide) (by decide) (by decide) (by decide); exact ⟨by have := h.1; omega, by have := h.2; omega⟩
        refine o_aload_n dX9_ends_40 rfl rfl (by rfl) ?_
        refine o_iload_n dX9_ends_41 rfl rfl (by rfl) ?_
        refine o_iload_n dX9_ends_42 rfl rfl (by rfl) ?_
        refine o_callV cs_X9_endBy cv_X9_227 (c_X9_endBy _ _ nc np hA u v hu hv) hq.2.2.2 (Nat.le_of_ble_eq_true rfl) dX9_ends_43 rfl (by decide) (by rfl) (by rfl) (by rfl) rfl rfl (Nat.le_of_ble_eq_true rfl) (fun rE mE hE => ?_)
        exact o_iret hq dX9_ends_46 (Or.inr (Or.inr ⟨by simp [b11, b23], fun h9 => c32 (hA.z.mpr h9), hE.1, hE.2.2.1⟩))
      · skip
        refine o_bipush (v := (-2)) dX9_ends_35 rfl (by decide) ?_
        refine o_goto (tgt := 46) dX9_ends_37 (by decide) ?_
        exact o_iret hq dX9_ends_46 (Or.inr (Or.inl ⟨by simp [b11, b23], hA.z.mp c32, rfl, rfl⟩))
    · skip
      have b23 := (if10 h2).1 c23
      refine o_iconst (v := (-1)) dX9_ends_26 rfl (by decide) ?_
      exact o_iret hq dX9_ends_27 (Or.inl ⟨by simp [b11, b23], rfl, rfl⟩)
set_option maxHeartbeats 4000000 in
set_option maxRecDepth 100000 in
theorem c_X9_odds (mu : Mu) (nc np : Nat) (hA : RB mu nc np) (cup : Int32) : Con yX9_odds cX9_odds 2 (some .int) 5 [vC 94, vI cup] mu (fun r mu2 => (hsB (nI nc) cup = false ∧ r = -1 ∧ mu2 = mu) ∨ (hsB (nI nc) cup = true ∧ mu 9 2 = 0 ∧ r = -2 ∧ mu2 = mu) ∨ (hsB (nI nc) cup = true ∧ ¬ mu 9 2 = 0 ∧ frR mu mu2 ∧ r = odS mu (mu 2 0) cup 9)) := by
  refine con_of (own := RX9) (by decide) rfl (Nat.le_of_ble_eq_true rfl) (fun X g hq => ?_)
  show WA X g RX9 2 cX9_odds 0 [(0, vC 94), (1, vI cup)] [] mu
  refine o_aload_n dX9_odds_0 rfl rfl (by rfl) ?_
  refine o_iload_n dX9_odds_1 rfl rfl (by rfl) ?_
  refine o_callV cs_X9_isCup cv_X9_95 (c_X9_isCup _ nc (by have := hA.nc.2.1; omega) hA.nc.1 cup) hq.2.2.2 (Nat.le_of_ble_eq_true rfl) dX9_odds_2 rfl (by decide) (by rfl) (by rfl) (by rfl) rfl rfl (Nat.le_of_ble_eq_true rfl) (fun r1 mu1 h1 => ?_)
  obtain ⟨em, h1⟩ := h1
  rw [em]
  refine o_if_ne (tgt := 12) dX9_odds_5 (by decide) rfl (fun (c5 : ¬ r1 = 0) => ?_) (fun (c5 : r1 = 0) => ?_)
  · skip
    have b5 := (if10 h1).2 c5
    refine o_aload_n dX9_odds_12 rfl rfl (by rfl) ?_
    refine o_getI cl_X9_100 dX9_odds_13 rfl (by decide) (by rfl) (by rfl) ?_
    refine o_if_ne (tgt := 24) dX9_odds_16 (by decide) rfl (fun (c16 : ¬ (mu 94 3) = 0) => ?_) (fun (c16 : (mu 94 3) = 0) => ?_)
    · skip
      have hnc := hA.nc.2.1
      obtain ⟨i, ei, hi⟩ := hsB_nI (by omega) b5
      refine o_aload_n dX9_odds_24 rfl rfl (by rfl) ?_
      refine o_iload_n dX9_odds_25 rfl rfl (by rfl) ?_
      refine o_callV cs_X9_oddsOf cv_X9_244 (c_X9_oddsOf _ (mu 2 0) cup nc np hA (hA.p c16) (by rw [ei]; exact nI_nem4 (by omega)) (by rw [ei]; exact nI_nem1 (by omega))) hq.2.2.2 (Nat.le_of_ble_eq_true rfl) dX9_odds_26 rfl (by decide) (by rfl) (by rfl) (by rfl) rfl rfl (Nat.le_of_ble_eq_true rfl) (fun rE mE hE => ?_)
      exact o_iret hq dX9_odds_29 (Or.inr (Or.inr ⟨by simp [b5], fun h9 => c16 (hA.z.mpr h9), hE.1, hE.2⟩))
    · skip
      refine o_bipush (v := (-2)) dX9_odds_19 rfl (by decide) ?_
      refine o_goto (tgt := 29) dX9_odds_21 (by decide) ?_
      exact o_iret hq dX9_odds_29 (Or.inr (Or.inl ⟨by simp [b5], hA.z.mp c16, rfl, rfl⟩))
  · skip
    have b5 := (if10 h1).1 c5
    refine o_iconst (v := (-1)) dX9_odds_8 rfl (by decide) ?_
    refine o_goto (tgt := 29) dX9_odds_9 (by decide) ?_
    exact o_iret hq dX9_odds_29 (Or.inl ⟨by simp [b5], rfl, rfl⟩)
theorem whF_e {mu : Mu} {nc np i : Nat} (hA : RB mu nc np) (hi : i < nc) : mu 96 (5 * i + 3) = mu (5 + i) 3 := hA.2.1.2.1.2.2.2 i hi 3 (by decide)
theorem rb_fr {mu m : Mu} {nc np : Nat} {cord : Int32} (hA : TOKA mu (aC mu cord) nc np) (h : frR mu m) : TOKA m (aC m cord) nc np ∧ odS m = odS mu := by
  rw [aC_cg hA h]
  exact ⟨(toka_fr hA h).1, od_cg hA.1.t9 (fun q a b => h.1 q (by omega))⟩
set_option maxHeartbeats 4000000 in
set_option maxRecDepth 100000 in
theorem c_X9_which (mu : Mu) (nc np : Nat) (hA : RB mu nc np) : Con yX9_which cX9_which 5 (some .int) 5 [vC 94] mu (fun r mu2 => (mu 9 2 = 0 ∧ r = -2 ∧ mu2 = mu) ∨ (¬ mu 9 2 = 0 ∧ frR mu mu2 ∧ r = (bst (whF mu) nI (-4) nc).1)) := by
  refine con_of (own := RX9) (by decide) rfl (Nat.le_of_ble_eq_true rfl) (fun X g hq => ?_)
  show WA X g RX9 5 cX9_which 0 [(0, vC 94)] [] mu
  have hnc := hA.nc.2.1
  refine o_aload_n dX9_which_0 rfl rfl (by rfl) ?_
  refine o_getI cl_X9_100 dX9_which_1 rfl (by decide) (by rfl) (by rfl) ?_
  refine o_if_ne (tgt := 10) dX9_which_4 (by decide) rfl (fun (c4 : ¬ (mu 94 3) = 0) => ?_) (fun (c4 : (mu 94 3) = 0) => ?_)
  · skip
    refine o_bipush (v := (-4)) dX9_which_10 rfl (by decide) ?_
    refine o_istore_n (L' := [(0, vC 94), (1, vI ((-4)))]) dX9_which_12 rfl rfl (by decide) (by rfl) (by rfl) ?_
    refine o_iconst (v := (-1)) dX9_which_13 rfl (by decide) ?_
    refine o_istore_n (L' := [(0, vC 94), (1, vI ((-4))), (2, vI ((-1)))]) dX9_which_14 rfl rfl (by decide) (by rfl) (by rfl) ?_
    refine o_iconst (v := 0) dX9_which_15 rfl (by decide) ?_
    refine o_istore_n (L' := [(0, vC 94), (1, vI ((-4))), (2, vI ((-1))), (3, vI 0)]) dX9_which_16 rfl rfl (by decide) (by rfl) (by rfl) ?_
    have LP17 : ∀ (nLP17 : Nat) (i : Nat) (m : Mu) , (i ≤ nc) → (frR mu m) → (nc < i + nLP17) → WA X g RX9 5 cX9_which 17 [(0, vC 94), (1, vI ((bst (whF mu) nI (-4) i).1)), (2, vI ((bst (whF mu) nI (-4) i).2)), (3, vI (nI i))] [] m := by
      intro nLP17
      induction nLP17 with
      | zero =>
        intro i m hi hF hm
        exact absurd hm (by omega)
      | succ nLP17 ihLP17 =>
        intro i m hi hF hm
        refine o_iload_n dX9_which_17 rfl rfl (by rfl) ?_
        refine o_aload_n dX9_which_18 rfl rfl (by rfl) ?_
        refine o_getI cl_X9_68 dX9_which_19 rfl (by decide) (by rfl) (by rfl) ?_
        refine o_icmp_ge (tgt := 74) dX9_which_22 (by decide) rfl (fun (c22 : (m 94 1) ≤ (nI i)) => ?_) (fun (c22 : ¬ (m 94 1) ≤ (nI i)) => ?_)
        · skip
          rw [show m 94 1 = nI nc by rw [hF.2 1 (by omega)]; exact hA.nc.1] at c22
          have hi2 := nI_dec2 c22 (by omega) (by omega)
          have e2 : i = nc := by omega
          refine o_iload_n dX9_which_74 rfl rfl (by rfl) ?_
          exact o_iret hq dX9_which_75 (Or.inr ⟨fun h9 => c4 (hA.z.mpr h9), hF, by rw [e2]⟩)
        · skip
          rw [show m 94 1 = nI nc by rw [hF.2 1 (by omega)]; exact hA.nc.1] at c22
          have hi2 := nI_dec c22 (by omega) (by omega)
          refine o_aload_n dX9_which_25 rfl rfl (by rfl) ?_
          refine o_iload_n dX9_which_26 rfl rfl (by rfl) ?_
          refine o_callV cs_X9_oddsOf cv_X9_244 (c_X9_oddsOf m (mu 2 0) (nI i) nc np (rb_fr hA hF).1 (hA.p c4) (nI_nem4 (by omega)) (nI_nem1 (by omega))) hq.2.2.2 (Nat.le_of_ble_eq_true rfl) dX9_which_27 rfl (by decide) (by rfl) (by rfl) (by rfl) rfl rfl (Nat.le_of_ble_eq_true rfl) (fun rE mE hE => ?_)
          rw [(rb_fr hA hF).2] at hE
          have hF2 := hF.tr hE.1
          refine o_aload_n dX9_which_30 rfl rfl (by rfl) ?_
          refine o_getC (q := 96) cl_X9_13 dX9_which_31 rfl (by decide) (by rfl) (by rfl) ?_
          refine o_iconst (v := 5) dX9_which_34 rfl (by decide) ?_
          refine o_iload_n dX9_which_35 rfl rfl (by rfl) ?_
          refine o_imul dX9_which_36 rfl ?_
          refine o_iconst (v := 3) dX9_which_37 rfl (by decide) ?_
          refine o_iadd dX9_which_38 rfl ?_
          refine o_iald dX9_which_39 rfl (by decide) (by rfl) (by rfl) (ixb (a := 5) (t := 3) (by omega) (by decide)) ?_
          refine o_imul dX9_which_40 rfl ?_
          rw [show rE * mE 96 (5 * nI i + 3).toNatClampNeg = whF mu i by rw [hE.2, hF2.1 96 (by omega), show (5 * nI i + 3).toNatClampNeg = 5 * i + 3 from ixl (a := 5) (t := 3) (by omega), whF_e hA hi2]; rfl]
          refine o_istore (L' := [(0, vC 94), (1, vI ((bst (whF mu) nI (-4) i).1)), (2, vI ((bst (whF mu) nI (-4) i).2)), (3, vI (nI i)), (4, vI (whF mu i))]) dX9_which_41 rfl (by decide) (by rfl) (by rfl) ?_
          refine o_iload dX9_which_43 rfl (by rfl) ?_
          refine o_iload_n dX9_which_45 rfl rfl (by rfl) ?_
          refine o_icmp_le (tgt := 53) dX9_which_46 (by decide) rfl (fun (c46 : (whF mu i) ≤ ((bst (whF mu) nI (-4) i).2)) => ?_) (fun (c46 : ¬ (whF mu i) ≤ ((bst (whF mu) nI (-4) i).2)) => ?_)
          · skip
            refine o_iload_n dX9_which_53 rfl rfl (by rfl) ?_
            refine o_istore_n (L' := [(0, vC 94), (1, vI ((bst (whF mu) nI (-4) i).1)), (2, vI ((bst (whF mu) nI (-4) i).2)), (3, vI (nI i)), (4, vI (whF mu i))]) dX9_which_54 rfl rfl (by decide) (by rfl) (by rfl) ?_
            refine o_iload dX9_which_55 rfl (by rfl) ?_
            refine o_iload_n dX9_which_57 rfl rfl (by rfl) ?_
            refine o_icmp_le (tgt := 66) dX9_which_58 (by decide) rfl (fun (c58 : (whF mu i) ≤ ((bst (whF mu) nI (-4) i).2)) => ?_) (fun (c58 : ¬ (whF mu i) ≤ ((bst (whF mu) nI (-4) i).2)) => ?_)
            · skip
              refine o_iload_n dX9_which_66 rfl rfl (by rfl) ?_
              refine o_istore_n (L' := [(0, vC 94), (1, vI ((bst (whF mu) nI (-4) i).1)), (2, vI ((bst (whF mu) nI (-4) i).2)), (3, vI (nI i)), (4, vI (whF mu i))]) dX9_which_67 rfl rfl (by decide) (by rfl) (by rfl) ?_
              refine o_iinc (v := nI (i + 1)) (L' := [(0, vC 94), (1, vI ((bst (whF mu) nI (-4) i).1)), (2, vI ((bst (whF mu) nI (-4) i).2)), (3, vI (nI (i + 1))), (4, vI (whF mu i))]) dX9_which_68 rfl (by rfl) (by exact nI_1 i) (by decide) (by rfl) (by rfl) ?_
              refine o_goto (tgt := 17) dX9_which_71 (by decide) ?_
              refine o_pick (L' := [(0, vC 94), (1, vI ((bst (whF mu) nI (-4) i).1)), (2, vI ((bst (whF mu) nI (-4) i).2)), (3, vI (nI (i + 1)))]) [0, 1, 2, 3] (by rfl) ?_
              have e9 : bst (whF mu) nI (-4) (i + 1) = bst (whF mu) nI (-4) i := if_pos c46
              have h9 := ihLP17 (i + 1) _ (by omega) hF2 (by omega)
              rw [e9] at h9
              exact h9
            · skip
              exact absurd c46 c58
          · skip
            refine o_iload_n dX9_which_49 rfl rfl (by rfl) ?_
            refine o_goto (tgt := 54) dX9_which_50 (by decide) ?_
            refine o_istore_n (L' := [(0, vC 94), (1, vI (nI i)), (2, vI ((bst (whF mu) nI (-4) i).2)), (3, vI (nI i)), (4, vI (whF mu i))]) dX9_which_54 rfl rfl (by decide) (by rfl) (by rfl) ?_
            refine o_iload dX9_which_55 rfl (by rfl) ?_
            refine o_iload_n dX9_which_57 rfl rfl (by rfl) ?_
            refine o_icmp_le (tgt := 66) dX9_which_58 (by decide) rfl (fun (c58 : (whF mu i) ≤ ((bst (whF mu) nI (-4) i).2)) => ?_) (fun (c58 : ¬ (whF mu i) ≤ ((bst (whF mu) nI (-4) i).2)) => ?_)
            · skip
              exact absurd c58 c46
            · skip
              refine o_iload dX9_which_61 rfl (by rfl) ?_
              refine o_goto (tgt := 67) dX9_which_63 (by decide) ?_
              refine o_istore_n (L' := [(0, vC 94), (1, vI (nI i)), (2, vI (whF mu i)), (3, vI (nI i)), (4, vI (whF mu i))]) dX9_which_67 rfl rfl (by decide) (by rfl) (by rfl) ?_
              refine o_iinc (v := nI (i + 1)) (L' := [(0, vC 94), (1, vI (nI i)), (2, vI (whF mu i)), (3, vI (nI (i + 1))), (4, vI (whF mu i))]) dX9_which_68 rfl (by rfl) (by exact nI_1 i) (by decide) (by rfl) (by rfl) ?_
              refine o_goto (tgt := 17) dX9_which_71 (by decide) ?_
              refine o_pick (L' := [(0, vC 94), (1, vI (nI i)), (2, vI (whF mu i)), (3, vI (nI (i + 1)))]) [0, 1, 2, 3] (by rfl) ?_
              have e9 : bst (whF mu) nI (-4) (i + 1) = (nI i, ((whF mu)) i) := if_neg c46
              have h9 := ihLP17 (i + 1) _ (by omega) hF2 (by omega)
              rw [e9] at h9
              exact h9
    exact LP17 (nc + 1) 0 _ (by omega) (frR.rf mu) (by omega)
  · skip
    refine o_bipush (v := (-2)) dX9_which_7 rfl (by decide) ?_
    exact o_iret hq dX9_which_9 (Or.inl ⟨hA.z.mp c4, rfl, rfl⟩)
def frC (mu m : Mu) : Prop := (∀ q, (q < 94 ∨ (95 < q ∧ q < 101) ∨ 106 < q) → m q = mu q) ∧ (∀ j, j ≠ 0 → m 95 j = mu 95 j) ∧ ∀ j, (j < 18 ∨ 30 < j) → m 94 j = mu 94 j
theorem toka_cd {mu m : Mu} {nc np : Nat} {c0 cd : Int32} (hA : TOKA mu (aC mu c0) nc np) (h : frC mu m) (hc : rg cd 10 60) : TOKA (upF m 95 0 cd) (aC (upF m 95 0 cd) cd) nc np ∧ odS (upF m 95 0 cd) = odS mu := by
  have c : ∀ q, q < 53 → upF m 95 0 cd q = mu q := fun q hq => by rw [upF_k (by omega)]; exact h.1 q (by omega)
  have et : ∀ row col, tget (upF m 95 0 cd) 9 row col = tget mu 9 row col := fun row col => tget_cg tab9 hA.1.t9 (fun q a b => c q (by omega))
  have e94 : ∀ j, (j < 18 ∨ 30 < j) → upF m 95 0 cd 94 j = mu 94 j := fun j hj => by rw [upF_k (by decide)]; exact h.2.2 j hj
  have e9 : ∀ q, 95 < q → q < 101 → upF m 95 0 cd q = mu q := fun q q1 q2 => by rw [upF_k (by omega)]; exact h.1 q (by omega)
  refine ⟨?_, od_cg hA.1.t9 (fun q a b => c q (by omega))⟩
  unfold aC
  rw [et, et]
  obtain ⟨a1, a2, a3, a4, a5, a6, a7, a8⟩ := hA
  obtain ⟨⟨b1, b2, b3⟩, ⟨c1, c2, c3, c4⟩, ⟨d1, d2, d3, d4, d5, d6⟩⟩ := a2
  refine ⟨a1.cg (fun q _ b => c q (by omega)), ⟨⟨upF_s, ?_, ?_⟩, ⟨?_, ?_, c3, ?_⟩, ⟨?_, ?_, d3, ?_, ?_, ?_⟩⟩, hc, a4, a5, ?_, ?_, ?_⟩
  · rw [upF_i (by decide), h.2.1 1 (by decide), c 2 (by decide)]; exact b2
  · rw [upF_i (by decide), h.2.1 2 (by decide), c 2 (by decide)]; exact b3
  · rw [c 3 (by decide)]; exact c1
  · rw [e94 1 (by omega)]; exact c2
  · intro i hi j hj; rw [e9 96 (by decide) (by decide), c (5 + i) (by omega)]; exact c4 i hi j hj
  · rw [c 9 (by decide)]; exact d1
  · rw [e94 3 (by omega)]; exact d2
  · intro i hi; rw [e9 97 (by decide) (by decide), c (11 + i) (by omega)]; exact d4 i hi
  · intro hp; rw [e9 97 (by decide) (by decide)]; exact d5 hp
  · intro i i1 i2; rw [e9 97 (by decide) (by decide), c (11 + i) (by omega)]; exact d6 i i1 i2
  · rw [e94 17 (by omega)]; exact a6
  · rw [e94 15 (by omega)]; exact a7
  · exact Or.inl rfl
theorem frC.od {mu m m2 : Mu} {cd : Int32} (h : frC mu m) (h2 : frR (upF m 95 0 cd) m2) : frC mu m2 := by
  refine ⟨fun q hq => by rw [h2.1 q (by omega), upF_k (by omega)]; exact h.1 q hq, fun j hj => by rw [h2.1 95 (by omega), upF_i hj]; exact h.2.1 j hj, fun j hj => by rw [h2.2 j hj, upF_k (by decide)]; exact h.2.2 j hj⟩
theorem frC.end {mu m : Mu} (h : frC mu m) : frR mu (upF m 95 0 (mu 95 0)) := by
  refine ⟨fun q hq => ?_, fun j hj => by rw [upF_k (by decide)]; exact h.2.2 j hj⟩
  by_cases e : q = 95
  · subst e
    funext j
    by_cases j0 : j = 0
    · rw [j0, upF_s]
    · rw [upF_i j0]; exact h.2.1 j j0
  · rw [upF_k e]; exact h.1 q (by omega)
theorem cd_rg {i : Nat} (h : i < 51) : rg (nI (10 + i)) 10 60 := by
  unfold rg
  rw [nI_toInt (by omega)]
  omega
set_option maxHeartbeats 4000000 in
set_option maxRecDepth 100000 in
theorem c_X9_cord (mu : Mu) (nc np : Nat) (hA : RB mu nc np) (cup what : Int32) : Con yX9_cord cX9_cord 8 (some .int) 5 [vC 94, vI cup, vI what] mu (fun r mu2 => ((hsB (nI nc) cup && inB what 0 1) = false ∧ r = -1 ∧ mu2 = mu) ∨ ((hsB (nI nc) cup && inB what 0 1) = true ∧ mu 9 2 = 0 ∧ r = -2 ∧ mu2 = mu) ∨ ((hsB (nI nc) cup && inB what 0 1) = true ∧ ¬ mu 9 2 = 0 ∧ frR mu mu2 ∧ r = if what = 0 then (bst (coF mu cup) coG 10 51).1 else (bst (coF mu cup) coG 10 51).2)) := by
  refine con_of (own := RX9) (by decide) rfl (Nat.le_of_ble_eq_true rfl) (fun X g hq => ?_)
  show WA X g RX9 8 cX9_cord 0 [(0, vC 94), (1, vI cup), (2, vI what)] [] mu
  refine o_aload_n dX9_cord_0 rfl rfl (by rfl) ?_
  refine o_iload_n dX9_cord_1 rfl rfl (by rfl) ?_
  refine o_callV cs_X9_isCup cv_X9_95 (c_X9_isCup _ nc (by have := hA.nc.2.1; omega) hA.nc.1 cup) hq.2.2.2 (Nat.le_of_ble_eq_true rfl) dX9_cord_2 rfl (by decide) (by rfl) (by rfl) (by rfl) rfl rfl (Nat.le_of_ble_eq_true rfl) (fun r1 mu1 h1 => ?_)
  obtain ⟨em, h1⟩ := h1
  rw [em]
  refine o_if_eq (tgt := 18) dX9_cord_5 (by decide) rfl (fun (c5 : r1 = 0) => ?_) (fun (c5 : ¬ r1 = 0) => ?_)
  · skip
    have b5 := (if10 h1).1 c5
    refine o_iconst (v := (-1)) dX9_cord_18 rfl (by decide) ?_
    exact o_iret hq dX9_cord_19 (Or.inl ⟨by simp [b5], rfl, rfl⟩)
  · skip
    have b5 := (if10 h1).2 c5
    refine o_iload_n dX9_cord_8 rfl rfl (by rfl) ?_
    refine o_i2l dX9_cord_9 rfl ?_
    refine o_lconst (v := 0) dX9_cord_10 rfl (by decide) ?_
    refine o_lconst (v := 1) dX9_cord_11 rfl (by decide) ?_
    refine o_callS cs_X9_in ct_X9_71 (c_in _ what 0 1) hq.2.2.2 (Nat.le_of_ble_eq_true rfl) dX9_cord_12 rfl rfl rfl (Nat.le_of_ble_eq_true rfl) (fun r2 mu2 h2 => ?_)
    obtain ⟨em, h2⟩ := h2
    rw [em]
    refine o_if_ne (tgt := 20) dX9_cord_15 (by decide) rfl (fun (c15 : ¬ r2 = 0) => ?_) (fun (c15 : r2 = 0) => ?_)
    · skip
      have b15 := (if10 h2).2 c15
      refine o_aload_n dX9_cord_20 rfl rfl (by rfl) ?_
      refine o_getI cl_X9_100 dX9_cord_21 rfl (by decide) (by rfl) (by rfl) ?_
      refine o_if_ne (tgt := 30) dX9_cord_24 (by decide) rfl (fun (c24 : ¬ (mu 94 3) = 0) => ?_) (fun (c24 : (mu 94 3) = 0) => ?_)
      · skip
        have hnc := hA.nc.2.1
        obtain ⟨ci, ei, hci⟩ := hsB_nI (by omega) b5
        refine o_aload_n dX9_cord_30 rfl rfl (by rfl) ?_
        refine o_getC (q := 95) cl_X9_7 dX9_cord_31 rfl (by decide) (by rfl) (by rfl) ?_
        refine o_iconst (v := 0) dX9_cord_34 rfl (by decide) ?_
        refine o_iald dX9_cord_35 rfl (by decide) (by rfl) (by rfl) (vp_in_nI (n := 0) (by decide) (by decide)) ?_
        refine o_istore_n (L' := [(0, vC 94), (1, vI cup), (2, vI what), (3, vI (mu 95 0))]) dX9_cord_36 rfl rfl (by decide) (by rfl) (by rfl) ?_
        refine o_bipush (v := 10) dX9_cord_37 rfl (by decide) ?_
        refine o_istore (L' := [(0, vC 94), (1, vI cup), (2, vI what), (3, vI (mu 95 0)), (4, vI 10)]) dX9_cord_39 rfl (by decide) (by rfl) (by rfl) ?_
        refine o_iconst (v := (-1)) dX9_cord_41 rfl (by decide) ?_
        refine o_istore (L' := [(0, vC 94), (1, vI cup), (2, vI what), (3, vI (mu 95 0)), (4, vI 10), (5, vI ((-1)))]) dX9_cord_42 rfl (by decide) (by rfl) (by rfl) ?_
        refine o_bipush (v := 10) dX9_cord_44 rfl (by decide) ?_
        refine o_istore (L' := [(0, vC 94), (1, vI cup), (2, vI what), (3, vI (mu 95 0)), (4, vI 10), (5, vI ((-1))), (6, vI 10)]) dX9_cord_46 rfl (by decide) (by rfl) (by rfl) ?_
        have LP48 : ∀ (nLP48 : Nat) (i : Nat) (m : Mu) , (i ≤ 51) → (frC mu m) → (51 < i + nLP48) → WA X g RX9 8 cX9_cord 48 [(0, vC 94), (1, vI cup), (2, vI what), (3, vI (mu 95 0)), (4, vI ((bst (coF mu cup) coG 10 i).1)), (5, vI ((bst (coF mu cup) coG 10 i).2)), (6, vI (nI (10 + i)))] [] m := by
          intro nLP48
          induction nLP48 with
          | zero =>
            intro i m hi hF hm
            exact absurd hm (by omega)
          | succ nLP48 ihLP48 =>
            intro i m hi hF hm
            refine o_iload dX9_cord_48 rfl (by rfl) ?_
            refine o_bipush (v := 60) dX9_cord_50 rfl (by decide) ?_
            refine o_icmp_gt (tgt := 108) dX9_cord_52 (by decide) rfl (fun (c52 : 60 < (nI (10 + i))) => ?_) (fun (c52 : ¬ 60 < (nI (10 + i))) => ?_)
            · skip
              have hi2 := (nI_ltI (a := 60) (by decide) (by omega)).mp c52
              have e2 : i = 51 := by omega
              refine o_aload_n dX9_cord_108 rfl rfl (by rfl) ?_
              refine o_getC (q := 95) cl_X9_7 dX9_cord_109 rfl (by decide) (by rfl) (by rfl) ?_
              refine o_iconst (v := 0) dX9_cord_112 rfl (by decide) ?_
              refine o_iload_n dX9_cord_113 rfl rfl (by rfl) ?_
              refine o_iast dX9_cord_114 rfl (by decide) (by rfl) (by rfl) (vp_in_nI (n := 0) (by decide) (by decide)) ?_
              refine o_iload_n dX9_cord_115 rfl rfl (by rfl) ?_
              refine o_if_ne (tgt := 124) dX9_cord_116 (by decide) rfl (fun (c116 : ¬ what = 0) => ?_) (fun (c116 : what = 0) => ?_)
              · skip
                refine o_iload dX9_cord_124 rfl (by rfl) ?_
                exact o_iret hq dX9_cord_126 (Or.inr (Or.inr ⟨by simp [b5, b15], fun h9 => c24 (hA.z.mpr h9), hF.end, by rw [if_neg c116, e2]⟩))
              · skip
                refine o_iload dX9_cord_119 rfl (by rfl) ?_
                refine o_goto (tgt := 126) dX9_cord_121 (by decide) ?_
                exact o_iret hq dX9_cord_126 (Or.inr (Or.inr ⟨by simp [b5, b15], fun h9 => c24 (hA.z.mpr h9), hF.end, by rw [if_pos c116, e2]⟩))
            · skip
              have hi2 : ¬ 60 < 10 + i := fun h9 => c52 ((nI_ltI (a := 60) (by decide) (by omega)).mpr h9)
              refine o_aload_n dX9_cord_55 rfl rfl (by rfl) ?_
              refine o_getC (q := 95) cl_X9_7 dX9_cord_56 rfl (by decide) (by rfl) (by rfl) ?_
              refine o_iconst (v := 0) dX9_cord_59 rfl (by decide) ?_
              refine o_iload dX9_cord_60 rfl (by rfl) ?_
              refine o_iast dX9_cord_62 rfl (by decide) (by rfl) (by rfl) (vp_in_nI (n := 0) (by decide) (by decide)) ?_
              refine o_aload_n dX9_cord_63 rfl rfl (by rfl) ?_
              refine o_iload_n dX9_cord_64 rfl rfl (by rfl) ?_
              refine o_callV cs_X9_oddsOf cv_X9_244 (c_X9_oddsOf _ (nI (10 + i)) cup nc np (toka_cd hA hF (cd_rg (by omega))).1 (hA.p c24) (by rw [ei]; exact nI_nem4 (by omega)) (by rw [ei]; exact nI_nem1 (by omega))) hq.2.2.2 (Nat.le_of_ble_eq_true rfl) dX9_cord_65 rfl (by decide) (by rfl) (by rfl) (by rfl) rfl rfl (Nat.le_of_ble_eq_true rfl) (fun rE mE hE => ?_)
              obtain ⟨hE1, hE⟩ := hE
              have hE : rE = odS mu (nI (10 + i)) cup 9 := hE.trans (congrFun (congrFun (congrFun (toka_cd hA hF (cd_rg (i := i) (by omega))).2 (nI (10 + i))) cup) 9)
              have hF2 := hF.od hE1
              subst hE
              refine o_istore (L' := [(0, vC 94), (1, vI cup), (2, vI what), (3, vI (mu 95 0)), (4, vI ((bst (coF mu cup) coG 10 i).1)), (5, vI ((bst (coF mu cup) coG 10 i).2)), (6, vI (nI (10 + i))), (7, vI (odS mu (nI (10 + i)) cup 9))]) dX9_cord_68 rfl (by decide) (by rfl) (by rfl) ?_
              refine o_iload dX9_cord_70 rfl (by rfl) ?_
              refine o_iload dX9_cord_72 rfl (by rfl) ?_
              refine o_icmp_le (tgt := 82) dX9_cord_74 (by decide) rfl (fun (c74 : (odS mu (nI (10 + i)) cup 9) ≤ ((bst (coF mu cup) coG 10 i).2)) => ?_) (fun (c74 : ¬ (odS mu (nI (10 + i)) cup 9) ≤ ((bst (coF mu cup) coG 10 i).2)) => ?_)
              · skip
                refine o_iload dX9_cord_82 rfl (by rfl) ?_
                refine o_istore (L' := [(0, vC 94), (1, vI cup), (2, vI what), (3, vI (mu 95 0)), (4, vI ((bst (coF mu cup) coG 10 i).1)), (5, vI ((bst (coF mu cup) coG 10 i).2)), (6, vI (nI (10 + i))), (7, vI (odS mu (nI (10 + i)) cup 9))]) dX9_cord_84 rfl (by decide) (by rfl) (by rfl) ?_
                refine o_iload dX9_cord_86 rfl (by rfl) ?_
                refine o_iload dX9_cord_88 rfl (by rfl) ?_
                refine o_icmp_le (tgt := 98) dX9_cord_90 (by decide) rfl (fun (c90 : (odS mu (nI (10 + i)) cup 9) ≤ ((bst (coF mu cup) coG 10 i).2)) => ?_) (fun (c90 : ¬ (odS mu (nI (10 + i)) cup 9) ≤ ((bst (coF mu cup) coG 10 i).2)) => ?_)
                · skip
                  refine o_iload dX9_cord_98 rfl (by rfl) ?_
                  refine o_istore (L' := [(0, vC 94), (1, vI cup), (2, vI what), (3, vI (mu 95 0)), (4, vI ((bst (coF mu cup) coG 10 i).1)), (5, vI ((bst (coF mu cup) coG 10 i).2)), (6, vI (nI (10 + i))), (7, vI (odS mu (nI (10 + i)) cup 9))]) dX9_cord_100 rfl (by decide) (by rfl) (by rfl) ?_
                  refine o_iinc (v := nI (10 + (i + 1))) (L' := [(0, vC 94), (1, vI cup), (2, vI what), (3, vI (mu 95 0)), (4, vI ((bst (coF mu cup) coG 10 i).1)), (5, vI ((bst (coF mu cup) coG 10 i).2)), (6, vI (nI (10 + (i + 1)))), (7, vI (odS mu (nI (10 + i)) cup 9))]) dX9_cord_102 rfl (by rfl) (by exact nI_1 (10 + i)) (by decide) (by rfl) (by rfl) ?_
                  refine o_goto (tgt := 48) dX9_cord_105 (by decide) ?_
                  refine o_pick (L' := [(0, vC 94), (1, vI cup), (2, vI what), (3, vI (mu 95 0)), (4, vI ((bst (coF mu cup) coG 10 i).1)), (5, vI ((bst (coF mu cup) coG 10 i).2)), (6, vI (nI (10 + (i + 1))))]) [0, 1, 2, 3, 4, 5, 6] (by rfl) ?_
                  have e9 : bst (coF mu cup) coG 10 (i + 1) = bst (coF mu cup) coG 10 i := if_pos c74
                  have h9 := ihLP48 (i + 1) _ (by omega) hF2 (by omega)
                  rw [e9] at h9
                  exact h9
                · skip
                  exact absurd c74 c90
              · skip
                refine o_iload dX9_cord_77 rfl (by rfl) ?_
                refine o_goto (tgt := 84) dX9_cord_79 (by decide) ?_
                refine o_istore (L' := [(0, vC 94), (1, vI cup), (2, vI what), (3, vI (mu 95 0)), (4, vI (nI (10 + i))), (5, vI ((bst (coF mu cup) coG 10 i).2)), (6, vI (nI (10 + i))), (7, vI (odS mu (nI (10 + i)) cup 9))]) dX9_cord_84 rfl (by decide) (by rfl) (by rfl) ?_
                refine o_iload dX9_cord_86 rfl (by rfl) ?_
                refine o_iload dX9_cord_88 rfl (by rfl) ?_
                refine o_icmp_le (tgt := 98) dX9_cord_90 (by decide) rfl (fun (c90 : (odS mu (nI (10 + i)) cup 9) ≤ ((bst (coF mu cup) coG 10 i).2)) => ?_) (fun (c90 : ¬ (odS mu (nI (10 + i)) cup 9) ≤ ((bst (coF mu cup) coG 10 i).2)) => ?_)
                · skip
                  exact absurd c90 c74
                · skip
                  refine o_iload dX9_cord_93 rfl (by rfl) ?_
                  refine o_goto (tgt := 100) dX9_cord_95 (by decide) ?_
                  refine o_istore (L' := [(0, vC 94), (1, vI cup), (2, vI what), (3, vI (mu 95 0)), (4, vI (nI (10 + i))), (5, vI (odS mu (nI (10 + i)) cup 9)), (6, vI (nI (10 + i))), (7, vI (odS mu (nI (10 + i)) cup 9))]) dX9_cord_100 rfl (by decide) (by rfl) (by rfl) ?_
                  refine o_iinc (v := nI (10 + (i + 1))) (L' := [(0, vC 94), (1, vI cup), (2, vI what), (3, vI (mu 95 0)), (4, vI (nI (10 + i))), (5, vI (odS mu (nI (10 + i)) cup 9)), (6, vI (nI (10 + (i + 1)))), (7, vI (odS mu (nI (10 + i)) cup 9))]) dX9_cord_102 rfl (by rfl) (by exact nI_1 (10 + i)) (by decide) (by rfl) (by rfl) ?_
                  refine o_goto (tgt := 48) dX9_cord_105 (by decide) ?_
                  refine o_pick (L' := [(0, vC 94), (1, vI cup), (2, vI what), (3, vI (mu 95 0)), (4, vI (nI (10 + i))), (5, vI (odS mu (nI (10 + i)) cup 9)), (6, vI (nI (10 + (i + 1))))]) [0, 1, 2, 3, 4, 5, 6] (by rfl) ?_
                  have e9 : bst (coF mu cup) coG 10 (i + 1) = (coG i, ((coF mu cup)) i) := if_neg c74
                  have h9 := ihLP48 (i + 1) _ (by omega) hF2 (by omega)
                  rw [e9] at h9
                  exact h9
        exact LP48 52 0 _ (by omega) ⟨fun _ _ => rfl, fun _ _ => rfl, fun _ _ => rfl⟩ (by omega)
      · skip
        refine o_bipush (v := (-2)) dX9_cord_27 rfl (by decide) ?_
        exact o_iret hq dX9_cord_29 (Or.inr (Or.inl ⟨by simp [b5, b15], hA.z.mp c24, rfl, rfl⟩))
    · skip
      have b15 := (if10 h2).1 c15
      refine o_iconst (v := (-1)) dX9_cord_18 rfl (by decide) ?_
      exact o_iret hq dX9_cord_19 (Or.inl ⟨by simp [b5, b15], rfl, rfl⟩)
