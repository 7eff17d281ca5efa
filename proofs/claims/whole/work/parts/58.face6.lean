/-! ===== face: cells, middle ===== -/
def fr6 (mu m : Mu) : Prop := ∀ q, q < 53 ∨ 58 < q → m q = mu q
set_option maxHeartbeats 4000000 in
set_option maxRecDepth 100000 in
theorem c_X8_cells (mu : Mu) (hS : SOK mu 1) (cup what : Int32) : Con yX8_cells cX8_cells 3 (some .int) 7 [vC 0, vI cup, vI what] mu (fun r mu2 => ((hasB mu 3 cup && inB what 0 2) = false ∧ r = -1 ∧ mu2 = mu) ∨ ((hasB mu 3 cup && inB what 0 2) = true ∧ mu 9 2 = 0 ∧ r = -2 ∧ mu2 = mu) ∨ ((hasB mu 3 cup && inB what 0 2) = true ∧ ¬ mu 9 2 = 0 ∧ fr6 mu mu2 ∧ ∃ l, Lab (fun j => FB (eG mu (mu 2 0)) cup j = true) l ∧ r = if what = 0 then cntE (eG mu (mu 2 0)) cup 90 else if what = 1 then nI (ccN (FB (eG mu (mu 2 0)) cup) l 90) else nI (mmN (FB (eG mu (mu 2 0)) cup) l 90))) := by
  refine con_of (own := RX8) (by decide) rfl (Nat.le_of_ble_eq_true rfl) (fun X g hq => ?_)
  show WA X g RX8 3 cX8_cells 0 [(0, vC 0), (1, vI cup), (2, vI what)] [] mu
  refine o_aload_n dX8_cells_0 rfl rfl (by rfl) ?_
  refine o_getC (q := 1) cl_X8_10 dX8_cells_1 rfl (by decide) (by rfl) (by rfl) ?_
  refine o_getC (q := 3) cl_X8_74 dX8_cells_4 rfl (by decide) (by rfl) (by rfl) ?_
  refine o_iload_n dX8_cells_7 rfl rfl (by rfl) ?_
  refine o_callV cs_X6_has cv_X8_88 (c_has 3 4 5 tab3 _ cup) hq.2.2.2 (Nat.le_of_ble_eq_true rfl) dX8_cells_8 rfl (by decide) (by rfl) (by rfl) (by rfl) rfl rfl (Nat.le_of_ble_eq_true rfl) (fun r1 mu1 h1 => ?_)
  obtain ⟨em, h1⟩ := h1
  rw [em]
  refine o_if_eq (tgt := 23) dX8_cells_11 (by decide) rfl (fun (c11 : r1 = 0) => ?_) (fun (c11 : ¬ r1 = 0) => ?_)
  · skip
    have b11 := (if10 h1).1 c11
    refine o_iconst (v := (-1)) dX8_cells_23 rfl (by decide) ?_
    exact o_iret hq dX8_cells_24 (Or.inl ⟨by simp [b11], rfl, rfl⟩)
  · skip
    have b11 := (if10 h1).2 c11
    refine o_iload_n dX8_cells_14 rfl rfl (by rfl) ?_
    refine o_iconst (v := 0) dX8_cells_15 rfl (by decide) ?_
    refine o_iconst (v := 2) dX8_cells_16 rfl (by decide) ?_
    refine o_callS cs_X8_isIn ct_X8_60 (c_isIn _ what 0 2) hq.2.2.2 (Nat.le_of_ble_eq_true rfl) dX8_cells_17 rfl rfl rfl (Nat.le_of_ble_eq_true rfl) (fun r2 mu2 h2 => ?_)
    obtain ⟨em, h2⟩ := h2
    rw [em]
    refine o_if_ne (tgt := 25) dX8_cells_20 (by decide) rfl (fun (c20 : ¬ r2 = 0) => ?_) (fun (c20 : r2 = 0) => ?_)
    · skip
      have b20 := (if10 h2).2 c20
      refine o_aload_n dX8_cells_25 rfl rfl (by rfl) ?_
      refine o_getC (q := 1) cl_X8_10 dX8_cells_26 rfl (by decide) (by rfl) (by rfl) ?_
      refine o_callV cs_X4_hasNoPart cv_X8_189 (c_noPart _) hq.2.2.2 (Nat.le_of_ble_eq_true rfl) dX8_cells_29 rfl (by decide) (by rfl) (by rfl) (by rfl) rfl rfl (Nat.le_of_ble_eq_true rfl) (fun r3 mu3 h3 => ?_)
      obtain ⟨em, h3⟩ := h3
      rw [em]
      refine o_if_eq (tgt := 38) dX8_cells_32 (by decide) rfl (fun (c32 : r3 = 0) => ?_) (fun (c32 : ¬ r3 = 0) => ?_)
      · skip
        have b32 := (if10 h3).1 c32
        refine o_aload_n dX8_cells_38 rfl rfl (by rfl) ?_
        refine o_getC (q := 55) cl_X8_35 dX8_cells_39 rfl (by decide) (by rfl) (by rfl) ?_
        refine o_aload_n dX8_cells_42 rfl rfl (by rfl) ?_
        refine o_getC (q := 53) cl_X8_28 dX8_cells_43 rfl (by decide) (by rfl) (by rfl) ?_
        refine o_aload_n dX8_cells_46 rfl rfl (by rfl) ?_
        refine o_getC (q := 1) cl_X8_10 dX8_cells_47 rfl (by decide) (by rfl) (by rfl) ?_
        refine o_getC (q := 2) cl_X8_71 dX8_cells_50 rfl (by decide) (by rfl) (by rfl) ?_
        refine o_iconst (v := 0) dX8_cells_53 rfl (by decide) ?_
        refine o_iald dX8_cells_54 rfl (by decide) (by rfl) (by rfl) (vp_in_nI (n := 0) (by decide) (by decide)) ?_
        refine o_callVV cs_X0_tryAll cv_X8_196 (c_X0_tryAll _ hS (mu 2 0) hS.1.1) hq.2.2.2 (Nat.le_of_ble_eq_true rfl) dX8_cells_55 rfl (by decide) (by rfl) (by rfl) (by rfl) rfl rfl (Nat.le_of_ble_eq_true rfl) (fun mA hA => ?_)
        obtain ⟨hF, hE⟩ := hA
        obtain ⟨l, hl⟩ := lab_ex (fun j => FB (eG mu (mu 2 0)) cup j = true)
        have eB : FB (mA 56) cup = FB (eG mu (mu 2 0)) cup := FB_cg hE
        refine o_iload_n dX8_cells_58 rfl rfl (by rfl) ?_
        refine o_if_ne (tgt := 71) dX8_cells_59 (by decide) rfl (fun (c59 : ¬ what = 0) => ?_) (fun (c59 : what = 0) => ?_)
        · skip
          refine o_aload_n dX8_cells_71 rfl rfl (by rfl) ?_
          refine o_getC (q := 55) cl_X8_35 dX8_cells_72 rfl (by decide) (by rfl) (by rfl) ?_
          refine o_iload_n dX8_cells_75 rfl rfl (by rfl) ?_
          refine o_callVV cs_X0_seekCells cv_X8_204 (c_X0_seekCells _ cup l (by rw [eB]; exact hl)) hq.2.2.2 (Nat.le_of_ble_eq_true rfl) dX8_cells_76 rfl (by decide) (by rfl) (by rfl) (by rfl) rfl rfl (Nat.le_of_ble_eq_true rfl) (fun mK hK => ?_)
          rw [eB] at hK
          refine o_iload_n dX8_cells_79 rfl rfl (by rfl) ?_
          refine o_iconst (v := 1) dX8_cells_80 rfl (by decide) ?_
          refine o_icmp_ne (tgt := 94) dX8_cells_81 (by decide) rfl (fun (c81 : ¬ what = 1) => ?_) (fun (c81 : what = 1) => ?_)
          · skip
            refine o_aload_n dX8_cells_94 rfl rfl (by rfl) ?_
            refine o_getC (q := 55) cl_X8_35 dX8_cells_95 rfl (by decide) (by rfl) (by rfl) ?_
            refine o_getI cl_X8_210 dX8_cells_98 rfl (by decide) (by rfl) (by rfl) ?_
            exact o_iret hq dX8_cells_101 (Or.inr (Or.inr ⟨by simp [b11, b20, b32], fun e => b32 (decide_eq_true e), fun q hq9 => by rw [hK.1 q (by omega) (by omega) (by omega)]; exact hF q (by omega) (by omega) (by omega), l, hl, by rw [if_neg c59, if_neg c81, hK.2.2.1]⟩))
          · skip
            refine o_aload_n dX8_cells_84 rfl rfl (by rfl) ?_
            refine o_getC (q := 55) cl_X8_35 dX8_cells_85 rfl (by decide) (by rfl) (by rfl) ?_
            refine o_getI cl_X8_207 dX8_cells_88 rfl (by decide) (by rfl) (by rfl) ?_
            refine o_goto (tgt := 101) dX8_cells_91 (by decide) ?_
            exact o_iret hq dX8_cells_101 (Or.inr (Or.inr ⟨by simp [b11, b20, b32], fun e => b32 (decide_eq_true e), fun q hq9 => by rw [hK.1 q (by omega) (by omega) (by omega)]; exact hF q (by omega) (by omega) (by omega), l, hl, by rw [if_neg c59, if_pos c81, hK.2.1]⟩))
        · skip
          refine o_aload_n dX8_cells_62 rfl rfl (by rfl) ?_
          refine o_getC (q := 55) cl_X8_35 dX8_cells_63 rfl (by decide) (by rfl) (by rfl) ?_
          refine o_iload_n dX8_cells_66 rfl rfl (by rfl) ?_
          refine o_callV cs_X0_pullsInto cv_X8_200 (c_X0_pullsInto _ cup) hq.2.2.2 (Nat.le_of_ble_eq_true rfl) dX8_cells_67 rfl (by decide) (by rfl) (by rfl) (by rfl) rfl rfl (Nat.le_of_ble_eq_true rfl) (fun rP mP hP => ?_)
          exact o_iret hq dX8_cells_70 (Or.inr (Or.inr ⟨by simp [b11, b20, b32], fun e => b32 (decide_eq_true e), fun q hq9 => by rw [hP.1]; exact hF q (by omega) (by omega) (by omega), l, hl, by rw [if_pos c59, hP.2]; exact cnt_cg hE⟩))
      · skip
        have b32 := (if10 h3).2 c32
        refine o_bipush (v := (-2)) dX8_cells_35 rfl (by decide) ?_
        exact o_iret hq dX8_cells_37 (Or.inr (Or.inl ⟨by simp [b11, b20, b32], of_decide_eq_true b32, rfl, rfl⟩))
    · skip
      have b20 := (if10 h2).1 c20
      refine o_iconst (v := (-1)) dX8_cells_23 rfl (by decide) ?_
      exact o_iret hq dX8_cells_24 (Or.inl ⟨by simp [b11, b20], rfl, rfl⟩)
theorem nI_90 {b : Nat} (h : b < 90) : ¬ nI b = -1 := nI_nem1 (by omega)
set_option maxHeartbeats 4000000 in
set_option maxRecDepth 100000 in
theorem c_X8_middle (mu : Mu) (hS : SOK mu 1) (cup what : Int32) : Con yX8_middle cX8_middle 4 (some .int) 7 [vC 0, vI cup, vI what] mu (fun r mu2 => ((hasB mu 3 cup && inB what 0 2) = false ∧ r = -100001 ∧ mu2 = mu) ∨ ((hasB mu 3 cup && inB what 0 2) = true ∧ mu 9 2 = 0 ∧ r = -100002 ∧ mu2 = mu) ∨ ((hasB mu 3 cup && inB what 0 2) = true ∧ ¬ mu 9 2 = 0 ∧ fr6 mu mu2 ∧ ((mdP (eG mu (mu 2 0)) cup 90 = (-1, -1) ∧ r = -100004) ∨ ∃ b, b < 90 ∧ mdP (eG mu (mu 2 0)) cup 90 = (nI b, nI (rnK (eG mu (mu 2 0)) cup b)) ∧ r = if what = 0 then gU b else if what = 1 then gV b else nI (rnK (eG mu (mu 2 0)) cup b)))) := by
  refine con_of (own := RX8) (by decide) rfl (Nat.le_of_ble_eq_true rfl) (fun X g hq => ?_)
  show WA X g RX8 4 cX8_middle 0 [(0, vC 0), (1, vI cup), (2, vI what)] [] mu
  refine o_aload_n dX8_middle_0 rfl rfl (by rfl) ?_
  refine o_getC (q := 1) cl_X8_10 dX8_middle_1 rfl (by decide) (by rfl) (by rfl) ?_
  refine o_getC (q := 3) cl_X8_74 dX8_middle_4 rfl (by decide) (by rfl) (by rfl) ?_
  refine o_iload_n dX8_middle_7 rfl rfl (by rfl) ?_
  refine o_callV cs_X6_has cv_X8_88 (c_has 3 4 5 tab3 _ cup) hq.2.2.2 (Nat.le_of_ble_eq_true rfl) dX8_middle_8 rfl (by decide) (by rfl) (by rfl) (by rfl) rfl rfl (Nat.le_of_ble_eq_true rfl) (fun r1 mu1 h1 => ?_)
  obtain ⟨em, h1⟩ := h1
  rw [em]
  refine o_if_eq (tgt := 23) dX8_middle_11 (by decide) rfl (fun (c11 : r1 = 0) => ?_) (fun (c11 : ¬ r1 = 0) => ?_)
  · skip
    have b11 := (if10 h1).1 c11
    refine o_ldc dX8_middle_23 rfl kc_X8_92 ?_
    exact o_iret hq dX8_middle_25 (Or.inl ⟨by simp [b11], rfl, rfl⟩)
  · skip
    have b11 := (if10 h1).2 c11
    refine o_iload_n dX8_middle_14 rfl rfl (by rfl) ?_
    refine o_iconst (v := 0) dX8_middle_15 rfl (by decide) ?_
    refine o_iconst (v := 2) dX8_middle_16 rfl (by decide) ?_
    refine o_callS cs_X8_isIn ct_X8_60 (c_isIn _ what 0 2) hq.2.2.2 (Nat.le_of_ble_eq_true rfl) dX8_middle_17 rfl rfl rfl (Nat.le_of_ble_eq_true rfl) (fun r2 mu2 h2 => ?_)
    obtain ⟨em, h2⟩ := h2
    rw [em]
    refine o_if_ne (tgt := 26) dX8_middle_20 (by decide) rfl (fun (c20 : ¬ r2 = 0) => ?_) (fun (c20 : r2 = 0) => ?_)
    · skip
      have b20 := (if10 h2).2 c20
      refine o_aload_n dX8_middle_26 rfl rfl (by rfl) ?_
      refine o_getC (q := 1) cl_X8_10 dX8_middle_27 rfl (by decide) (by rfl) (by rfl) ?_
      refine o_callV cs_X4_hasNoPart cv_X8_189 (c_noPart _) hq.2.2.2 (Nat.le_of_ble_eq_true rfl) dX8_middle_30 rfl (by decide) (by rfl) (by rfl) (by rfl) rfl rfl (Nat.le_of_ble_eq_true rfl) (fun r3 mu3 h3 => ?_)
      obtain ⟨em, h3⟩ := h3
      rw [em]
      refine o_if_eq (tgt := 39) dX8_middle_33 (by decide) rfl (fun (c33 : r3 = 0) => ?_) (fun (c33 : ¬ r3 = 0) => ?_)
      · skip
        have b33 := (if10 h3).1 c33
        refine o_aload_n dX8_middle_39 rfl rfl (by rfl) ?_
        refine o_getC (q := 55) cl_X8_35 dX8_middle_40 rfl (by decide) (by rfl) (by rfl) ?_
        refine o_aload_n dX8_middle_43 rfl rfl (by rfl) ?_
        refine o_getC (q := 53) cl_X8_28 dX8_middle_44 rfl (by decide) (by rfl) (by rfl) ?_
        refine o_aload_n dX8_middle_47 rfl rfl (by rfl) ?_
        refine o_getC (q := 1) cl_X8_10 dX8_middle_48 rfl (by decide) (by rfl) (by rfl) ?_
        refine o_getC (q := 2) cl_X8_71 dX8_middle_51 rfl (by decide) (by rfl) (by rfl) ?_
        refine o_iconst (v := 0) dX8_middle_54 rfl (by decide) ?_
        refine o_iald dX8_middle_55 rfl (by decide) (by rfl) (by rfl) (vp_in_nI (n := 0) (by decide) (by decide)) ?_
        refine o_callVV cs_X0_tryAll cv_X8_196 (c_X0_tryAll _ hS (mu 2 0) hS.1.1) hq.2.2.2 (Nat.le_of_ble_eq_true rfl) dX8_middle_56 rfl (by decide) (by rfl) (by rfl) (by rfl) rfl rfl (Nat.le_of_ble_eq_true rfl) (fun mA hA => ?_)
        obtain ⟨hF, hE⟩ := hA
        have hM := mdP_cg (cup := cup) hE
        refine o_aload_n dX8_middle_59 rfl rfl (by rfl) ?_
        refine o_getC (q := 55) cl_X8_35 dX8_middle_60 rfl (by decide) (by rfl) (by rfl) ?_
        refine o_iload_n dX8_middle_63 rfl rfl (by rfl) ?_
        refine o_callV cs_X0_middleOf cv_X8_214 (c_X0_middleOf _ cup) hq.2.2.2 (Nat.le_of_ble_eq_true rfl) dX8_middle_64 rfl (by decide) (by rfl) (by rfl) (by rfl) rfl rfl (Nat.le_of_ble_eq_true rfl) (fun rM mu5 hM2 => ?_)
        obtain ⟨em, hM2⟩ := hM2
        rw [em]
        rw [hM.2 90 (by omega)] at hM2
        refine o_istore_n (L' := [(0, vC 0), (1, vI cup), (2, vI what), (3, vI rM)]) dX8_middle_67 rfl rfl (by decide) (by rfl) (by rfl) ?_
        refine o_iload_n dX8_middle_68 rfl rfl (by rfl) ?_
        refine o_iconst (v := (-1)) dX8_middle_69 rfl (by decide) ?_
        refine o_icmp_ne (tgt := 76) dX8_middle_70 (by decide) rfl (fun (c70 : ¬ rM = ((-1))) => ?_) (fun (c70 : rM = ((-1))) => ?_)
        · skip
          obtain ⟨b, hb, eb, -⟩ := (mdP_or (eG mu (mu 2 0)) cup 90).resolve_left (fun h => c70 (by rw [hM2, h]))
          have erM : rM = nI b := by rw [hM2, eb]
          refine o_iload_n dX8_middle_76 rfl rfl (by rfl) ?_
          by_cases k77_0 : what = 0
          · skip
            refine o_lookup (off := 27) (tgt := 104) dX8_middle_77 (by decide) (by rw [k77_0]; rfl) (by decide) ?_
            rw [erM]
            refine o_iload_n dX8_middle_104 rfl rfl (by rfl) ?_
            refine o_callS cs_X0_uOf ct_X8_218 (c_X0_uOf _ b hb) hq.2.2.2 (Nat.le_of_ble_eq_true rfl) dX8_middle_105 rfl rfl rfl (Nat.le_of_ble_eq_true rfl) (fun ru mU hu => ?_)
            obtain ⟨em, hu⟩ := hu
            rw [em]
            subst hu
            exact o_iret hq dX8_middle_108 (Or.inr (Or.inr ⟨by simp [b11, b20, b33], fun e => b33 (decide_eq_true e), fun q hq9 => hF q (by omega) (by omega) (by omega), Or.inr ⟨b, hb, eb, by rw [if_pos k77_0]⟩⟩))
          by_cases k77_1 : what = 1
          · skip
            refine o_lookup (off := 32) (tgt := 109) dX8_middle_77 (by decide) (by rw [k77_1]; rfl) (by decide) ?_
            rw [erM]
            refine o_iload_n dX8_middle_109 rfl rfl (by rfl) ?_
            refine o_callS cs_X0_vOf ct_X8_221 (c_X0_vOf _ b hb) hq.2.2.2 (Nat.le_of_ble_eq_true rfl) dX8_middle_110 rfl rfl rfl (Nat.le_of_ble_eq_true rfl) (fun rv mU hu => ?_)
            obtain ⟨em, hu⟩ := hu
            rw [em]
            subst hu
            exact o_iret hq dX8_middle_113 (Or.inr (Or.inr ⟨by simp [b11, b20, b33], fun e => b33 (decide_eq_true e), fun q hq9 => hF q (by omega) (by omega) (by omega), Or.inr ⟨b, hb, eb, by rw [if_neg k77_0, if_pos k77_1]⟩⟩))
          skip
          refine o_lookup (off := 37) (tgt := 114) dX8_middle_77 (by decide) ((lv_osw (a := 0) k77_0 rfl).trans ((lv_osw (a := 1) k77_1 rfl).trans (rfl))) (by decide) ?_
          rw [erM]
          refine o_aload_n dX8_middle_114 rfl rfl (by rfl) ?_
          refine o_getC (q := 55) cl_X8_35 dX8_middle_115 rfl (by decide) (by rfl) (by rfl) ?_
          refine o_iload_n dX8_middle_118 rfl rfl (by rfl) ?_
          refine o_iload_n dX8_middle_119 rfl rfl (by rfl) ?_
          refine o_callV cs_X0_ringsRound cv_X8_224 (c_X0_ringsRound _ b cup hb) hq.2.2.2 (Nat.le_of_ble_eq_true rfl) dX8_middle_120 rfl (by decide) (by rfl) (by rfl) (by rfl) rfl rfl (Nat.le_of_ble_eq_true rfl) (fun rr mU hu => ?_)
          obtain ⟨em, hu⟩ := hu
          rw [em]
          rw [hM.1 b hb] at hu
          exact o_iret hq dX8_middle_123 (Or.inr (Or.inr ⟨by simp [b11, b20, b33], fun e => b33 (decide_eq_true e), fun q hq9 => hF q (by omega) (by omega) (by omega), Or.inr ⟨b, hb, eb, by rw [if_neg k77_0, if_neg k77_1]; exact hu⟩⟩))
        · skip
          have hMN : mdP (eG mu (mu 2 0)) cup 90 = (-1, -1) := (mdP_or _ _ 90).resolve_right (fun ⟨b, h1, h2, _⟩ => by rw [h2] at hM2; exact nI_90 h1 (hM2.symm.trans c70))
          refine o_ldc dX8_middle_73 rfl kc_X8_217 ?_
          exact o_iret hq dX8_middle_75 (Or.inr (Or.inr ⟨by simp [b11, b20, b33], fun e => b33 (decide_eq_true e), fun q hq9 => hF q (by omega) (by omega) (by omega), Or.inl ⟨hMN, rfl⟩⟩))
      · skip
        have b33 := (if10 h3).2 c33
        refine o_ldc dX8_middle_36 rfl kc_X8_213 ?_
        exact o_iret hq dX8_middle_38 (Or.inr (Or.inl ⟨by simp [b11, b20, b33], of_decide_eq_true b33, rfl, rfl⟩))
    · skip
      have b20 := (if10 h2).1 c20
      refine o_ldc dX8_middle_23 rfl kc_X8_92 ?_
      exact o_iret hq dX8_middle_25 (Or.inl ⟨by simp [b11, b20], rfl, rfl⟩)
