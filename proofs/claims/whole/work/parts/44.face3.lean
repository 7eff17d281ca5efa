set_option maxHeartbeats 4000000 in
set_option maxRecDepth 100000 in
theorem c_X8_isRow (mu : Mu) (s l : Int32) : Con yX8_isRow cX8_isRow 2 (some .boolean) 1 [vI s, vI l] mu (fun r mu2 => mu2 = mu ∧ r = if (inB s 0 3 && inB l 0 2) = true then 1 else 0) := by
  refine con_of (own := RX8) (by decide) rfl (Nat.le_of_ble_eq_true rfl) (fun X g hq => ?_)
  show WA X g RX8 2 cX8_isRow 0 [(0, vI s), (1, vI l)] [] mu
  refine o_iload_n dX8_isRow_0 rfl rfl (by rfl) ?_
  refine o_iconst (v := 0) dX8_isRow_1 rfl (by decide) ?_
  refine o_iconst (v := 3) dX8_isRow_2 rfl (by decide) ?_
  refine o_callS cs_X8_isIn ct_X8_60 (c_isIn _ s 0 3) hq.2.2.2 (Nat.le_of_ble_eq_true rfl) dX8_isRow_3 rfl rfl rfl (Nat.le_of_ble_eq_true rfl) (fun r1 mu1 h1 => ?_)
  obtain ⟨em, h1⟩ := h1
  rw [em]
  refine o_if_eq (tgt := 22) dX8_isRow_6 (by decide) rfl (fun (c6 : r1 = 0) => ?_) (fun (c6 : ¬ r1 = 0) => ?_)
  · skip
    have b6 := (if10 h1).1 c6
    refine o_iconst (v := 0) dX8_isRow_22 rfl (by decide) ?_
    exact o_zret hq dX8_isRow_23 (Or.inl rfl) ⟨rfl, by simp [b6]⟩
  · skip
    have b6 := (if10 h1).2 c6
    refine o_iload_n dX8_isRow_9 rfl rfl (by rfl) ?_
    refine o_iconst (v := 0) dX8_isRow_10 rfl (by decide) ?_
    refine o_iconst (v := 2) dX8_isRow_11 rfl (by decide) ?_
    refine o_callS cs_X8_isIn ct_X8_60 (c_isIn _ l 0 2) hq.2.2.2 (Nat.le_of_ble_eq_true rfl) dX8_isRow_12 rfl rfl rfl (Nat.le_of_ble_eq_true rfl) (fun r2 mu2 h2 => ?_)
    obtain ⟨em, h2⟩ := h2
    rw [em]
    refine o_if_eq (tgt := 22) dX8_isRow_15 (by decide) rfl (fun (c15 : r2 = 0) => ?_) (fun (c15 : ¬ r2 = 0) => ?_)
    · skip
      have b15 := (if10 h2).1 c15
      refine o_iconst (v := 0) dX8_isRow_22 rfl (by decide) ?_
      exact o_zret hq dX8_isRow_23 (Or.inl rfl) ⟨rfl, by simp [b6, b15]⟩
    · skip
      have b15 := (if10 h2).2 c15
      refine o_iconst (v := 1) dX8_isRow_18 rfl (by decide) ?_
      refine o_goto (tgt := 23) dX8_isRow_19 (by decide) ?_
      exact o_zret hq dX8_isRow_23 (Or.inr rfl) ⟨rfl, by simp [b6, b15]⟩
set_option maxHeartbeats 4000000 in
set_option maxRecDepth 100000 in
theorem c_X8_sheet (mu : Mu) (sh0 l n : Int32) : Con yX8_sheet cX8_sheet 4 (some .int) 2 [vC 0, vI sh0, vI l, vI n] mu (fun r mu2 => ((inB sh0 0 3 && inB l 0 2 && decide (n ≤ 24)) = false ∧ r = -1 ∧ mu2 = mu) ∨ ((inB sh0 0 3 && inB l 0 2 && decide (n ≤ 24)) = true ∧ n < 0 ∧ r = -14 ∧ mu2 = mu) ∨ ((inB sh0 0 3 && inB l 0 2 && decide (n ≤ 24)) = true ∧ ¬ n < 0 ∧ r = n ∧ ∃ a, a < 4 ∧ sh0 = nI a ∧ (∀ q, q ≠ 87 → q ≠ 88 → q ≠ 90 + a → mu2 q = mu q) ∧ mu2 87 = upd (mu 87) a l ∧ mu2 88 = upd (mu 88) a n ∧ ∀ j, j < 24 → mu2 (90 + a) j = 0)) := by
  refine con_of (own := RX8) (by decide) rfl (Nat.le_of_ble_eq_true rfl) (fun X g hq => ?_)
  show WA X g RX8 4 cX8_sheet 0 [(0, vC 0), (1, vI sh0), (2, vI l), (3, vI n)] [] mu
  refine o_iload_n dX8_sheet_0 rfl rfl (by rfl) ?_
  refine o_iload_n dX8_sheet_1 rfl rfl (by rfl) ?_
  refine o_callS cs_X8_isRow ct_X8_258 (c_X8_isRow _ sh0 l) hq.2.2.2 (Nat.le_of_ble_eq_true rfl) dX8_sheet_2 rfl rfl rfl (Nat.le_of_ble_eq_true rfl) (fun r1 mu1 h1 => ?_)
  obtain ⟨em, h1⟩ := h1
  rw [em]
  refine o_if_eq (tgt := 14) dX8_sheet_5 (by decide) rfl (fun (c5 : r1 = 0) => ?_) (fun (c5 : ¬ r1 = 0) => ?_)
  · skip
    have b5 := (if10 h1).1 c5
    refine o_iconst (v := (-1)) dX8_sheet_14 rfl (by decide) ?_
    exact o_iret hq dX8_sheet_15 (Or.inl ⟨by simp [b5, c5], rfl, rfl⟩)
  · skip
    have b5 := (if10 h1).2 c5
    refine o_iload_n dX8_sheet_8 rfl rfl (by rfl) ?_
    refine o_bipush (v := 24) dX8_sheet_9 rfl (by decide) ?_
    refine o_icmp_le (tgt := 16) dX8_sheet_11 (by decide) rfl (fun (c11 : n ≤ 24) => ?_) (fun (c11 : ¬ n ≤ 24) => ?_)
    · skip
      refine o_iload_n dX8_sheet_16 rfl rfl (by rfl) ?_
      refine o_if_ge (tgt := 23) dX8_sheet_17 (by decide) rfl (fun (c17 : 0 ≤ n) => ?_) (fun (c17 : ¬ 0 ≤ n) => ?_)
      · skip
        obtain ⟨a, ea, -, ha⟩ := inB_nI (l := 0) (m := 3) (by decide) (by decide) (by have h := b5; simp only [Bool.and_eq_true] at h; exact h.1)
        subst ea
        refine o_aload_n dX8_sheet_23 rfl rfl (by rfl) ?_
        refine o_getC (q := 86) cl_X8_56 dX8_sheet_24 rfl (by decide) (by rfl) (by rfl) ?_
        refine o_iload_n dX8_sheet_27 rfl rfl (by rfl) ?_
        refine o_iload_n dX8_sheet_28 rfl rfl (by rfl) ?_
        refine o_iload_n dX8_sheet_29 rfl rfl (by rfl) ?_
        refine o_callVV cs_X5_makeRow cv_X8_273 (c_X5_makeRow _ a (by omega) l n) hq.2.2.2 (Nat.le_of_ble_eq_true rfl) dX8_sheet_30 rfl (by decide) (by rfl) (by rfl) (by rfl) rfl rfl (Nat.le_of_ble_eq_true rfl) (fun mM hM => ?_)
        refine o_iload_n dX8_sheet_33 rfl rfl (by rfl) ?_
        exact o_iret hq dX8_sheet_34 (Or.inr (Or.inr ⟨by simp [b5, c11], fun h => Int32.not_le.mpr h c17, rfl, a, by omega, rfl, hM⟩))
      · skip
        refine o_bipush (v := (-14)) dX8_sheet_20 rfl (by decide) ?_
        exact o_iret hq dX8_sheet_22 (Or.inr (Or.inl ⟨by simp [b5, c11], Int32.not_le.mp c17, rfl, rfl⟩))
    · skip
      refine o_iconst (v := (-1)) dX8_sheet_14 rfl (by decide) ?_
      exact o_iret hq dX8_sheet_15 (Or.inl ⟨by simp [b5, c5, c11], rfl, rfl⟩)
set_option maxHeartbeats 4000000 in
set_option maxRecDepth 100000 in
theorem c_X8_drop (mu : Mu) (sh0 : Int32) : Con yX8_drop cX8_drop 2 (some .int) 1 [vC 0, vI sh0] mu (fun r mu2 => (inB sh0 0 3 = false ∧ r = -1 ∧ mu2 = mu) ∨ (∃ a, a < 4 ∧ sh0 = nI a ∧ ((mu 88 a = -1 ∧ r = -11 ∧ mu2 = mu) ∨ (¬ mu 88 a = -1 ∧ r = mu 88 a ∧ mu2 = upF mu 88 a (-1))))) := by
  refine con_of (own := RX8) (by decide) rfl (Nat.le_of_ble_eq_true rfl) (fun X g hq => ?_)
  show WA X g RX8 2 cX8_drop 0 [(0, vC 0), (1, vI sh0)] [] mu
  refine o_iload_n dX8_drop_0 rfl rfl (by rfl) ?_
  refine o_iconst (v := 0) dX8_drop_1 rfl (by decide) ?_
  refine o_iconst (v := 3) dX8_drop_2 rfl (by decide) ?_
  refine o_callS cs_X8_isIn ct_X8_60 (c_isIn _ sh0 0 3) hq.2.2.2 (Nat.le_of_ble_eq_true rfl) dX8_drop_3 rfl rfl rfl (Nat.le_of_ble_eq_true rfl) (fun r1 mu1 h1 => ?_)
  obtain ⟨em, h1⟩ := h1
  rw [em]
  refine o_if_ne (tgt := 11) dX8_drop_6 (by decide) rfl (fun (c6 : ¬ r1 = 0) => ?_) (fun (c6 : r1 = 0) => ?_)
  · skip
    have b6 := (if10 h1).2 c6
    obtain ⟨a, ea, -, ha⟩ := inB_nI (l := 0) (m := 3) (by decide) (by decide) b6
    subst ea
    refine o_aload_n dX8_drop_11 rfl rfl (by rfl) ?_
    refine o_getC (q := 86) cl_X8_56 dX8_drop_12 rfl (by decide) (by rfl) (by rfl) ?_
    refine o_iload_n dX8_drop_15 rfl rfl (by rfl) ?_
    refine o_callV cs_X5_isNothing cv_X8_276 (c_X5_isNothing _ a (by omega)) hq.2.2.2 (Nat.le_of_ble_eq_true rfl) dX8_drop_16 rfl (by decide) (by rfl) (by rfl) (by rfl) rfl rfl (Nat.le_of_ble_eq_true rfl) (fun r2 mu2 h2 => ?_)
    obtain ⟨em, h2⟩ := h2
    rw [em]
    refine o_if_eq (tgt := 27) dX8_drop_19 (by decide) rfl (fun (c19 : r2 = 0) => ?_) (fun (c19 : ¬ r2 = 0) => ?_)
    · skip
      have b19 := (if10 h2).1 c19
      refine o_aload_n dX8_drop_27 rfl rfl (by rfl) ?_
      refine o_getC (q := 86) cl_X8_56 dX8_drop_28 rfl (by decide) (by rfl) (by rfl) ?_
      refine o_iload_n dX8_drop_31 rfl rfl (by rfl) ?_
      refine o_callV cs_X5_letGo cv_X8_279 (c_X5_letGo _ a (by omega)) hq.2.2.2 (Nat.le_of_ble_eq_true rfl) dX8_drop_32 rfl (by decide) (by rfl) (by rfl) (by rfl) rfl rfl (Nat.le_of_ble_eq_true rfl) (fun rL mL hL => ?_)
      exact o_iret hq dX8_drop_35 (Or.inr ⟨a, by omega, rfl, Or.inr ⟨fun e => b19 (decide_eq_true e), hL.2, hL.1⟩⟩)
    · skip
      have b19 := (if10 h2).2 c19
      refine o_bipush (v := (-11)) dX8_drop_22 rfl (by decide) ?_
      refine o_goto (tgt := 35) dX8_drop_24 (by decide) ?_
      exact o_iret hq dX8_drop_35 (Or.inr ⟨a, by omega, rfl, Or.inl ⟨of_decide_eq_true b19, rfl, rfl⟩⟩)
  · skip
    have b6 := (if10 h1).1 c6
    refine o_iconst (v := (-1)) dX8_drop_9 rfl (by decide) ?_
    exact o_iret hq dX8_drop_10 (Or.inl ⟨by simp [b6], rfl, rfl⟩)
theorem ref_fit {mu : Mu} {a : Nat} {l i n : Int32} (h : refV mu a l i n = 0) : ¬ mu 88 a = -1 ∧ mu 87 a = l ∧ fitB (mu 88 a) i n = true := by
  unfold refV at h
  by_cases h1 : mu 88 a = -1
  · rw [if_pos h1] at h; exact absurd h (by decide)
  · rw [if_neg h1] at h
    by_cases h2 : ¬ mu 87 a = l
    · rw [if_pos h2] at h; exact absurd h (by decide)
    · rw [if_neg h2] at h
      by_cases h3 : fitB (mu 88 a) i n = true
      · exact ⟨h1, Classical.not_not.mp h2, h3⟩
      · rw [if_neg h3] at h; exact absurd h (by decide)
set_option maxHeartbeats 4000000 in
set_option maxRecDepth 100000 in
theorem c_X8_item (mu : Mu) (hH : HOK mu) (sh0 l i v : Int32) : Con yX8_item cX8_item 6 (some .int) 2 [vC 0, vI sh0, vI l, vI i, vI v] mu (fun r mu2 => ((inB sh0 0 3 && inB l 0 2) = false ∧ r = -1 ∧ mu2 = mu) ∨ ((inB sh0 0 3 && inB l 0 2) = true ∧ ∃ a, a < 4 ∧ sh0 = nI a ∧ ((¬ refV mu a l i 1 = 0 ∧ r = refV mu a l i 1 ∧ mu2 = mu) ∨ (refV mu a l i 1 = 0 ∧ r = 1 ∧ mu2 = upF mu (90 + a) i.toNatClampNeg (cutV (mu 87 a) v))))) := by
  refine con_of (own := RX8) (by decide) rfl (Nat.le_of_ble_eq_true rfl) (fun X g hq => ?_)
  show WA X g RX8 6 cX8_item 0 [(0, vC 0), (1, vI sh0), (2, vI l), (3, vI i), (4, vI v)] [] mu
  refine o_iload_n dX8_item_0 rfl rfl (by rfl) ?_
  refine o_iload_n dX8_item_1 rfl rfl (by rfl) ?_
  refine o_callS cs_X8_isRow ct_X8_258 (c_X8_isRow _ sh0 l) hq.2.2.2 (Nat.le_of_ble_eq_true rfl) dX8_item_2 rfl rfl rfl (Nat.le_of_ble_eq_true rfl) (fun r1 mu1 h1 => ?_)
  obtain ⟨em, h1⟩ := h1
  rw [em]
  refine o_if_ne (tgt := 10) dX8_item_5 (by decide) rfl (fun (c5 : ¬ r1 = 0) => ?_) (fun (c5 : r1 = 0) => ?_)
  · skip
    have b5 := (if10 h1).2 c5
    obtain ⟨a, ea, -, ha⟩ := inB_nI (l := 0) (m := 3) (by decide) (by decide) (by have h := b5; simp only [Bool.and_eq_true] at h; exact h.1)
    subst ea
    refine o_aload_n dX8_item_10 rfl rfl (by rfl) ?_
    refine o_getC (q := 86) cl_X8_56 dX8_item_11 rfl (by decide) (by rfl) (by rfl) ?_
    refine o_iload_n dX8_item_14 rfl rfl (by rfl) ?_
    refine o_iload_n dX8_item_15 rfl rfl (by rfl) ?_
    refine o_iload_n dX8_item_16 rfl rfl (by rfl) ?_
    refine o_iconst (v := 1) dX8_item_17 rfl (by decide) ?_
    refine o_callV cs_X5_refusalOf cv_X8_262 (c_X5_refusalOf _ a (by omega) l i 1) hq.2.2.2 (Nat.le_of_ble_eq_true rfl) dX8_item_18 rfl (by decide) (by rfl) (by rfl) (by rfl) rfl rfl (Nat.le_of_ble_eq_true rfl) (fun rR mR hR => ?_)
    obtain ⟨em, hR⟩ := hR
    rw [em]
    refine o_istore (L' := [(0, vC 0), (1, vI (nI a)), (2, vI l), (3, vI i), (4, vI v), (5, vI rR)]) dX8_item_21 rfl (by decide) (by rfl) (by rfl) ?_
    refine o_iload dX8_item_23 rfl (by rfl) ?_
    refine o_if_eq (tgt := 31) dX8_item_25 (by decide) rfl (fun (c25 : rR = 0) => ?_) (fun (c25 : ¬ rR = 0) => ?_)
    · skip
      rw [hR] at c25
      refine o_aload_n dX8_item_31 rfl rfl (by rfl) ?_
      refine o_getC (q := 86) cl_X8_56 dX8_item_32 rfl (by decide) (by rfl) (by rfl) ?_
      refine o_iload_n dX8_item_35 rfl rfl (by rfl) ?_
      refine o_iload_n dX8_item_36 rfl rfl (by rfl) ?_
      refine o_iload dX8_item_37 rfl (by rfl) ?_
      refine o_callVV cs_X5_put cv_X8_272 (c_X5_put _ hH a (by omega) i v) hq.2.2.2 (Nat.le_of_ble_eq_true rfl) dX8_item_39 rfl (by decide) (by rfl) (by rfl) (by rfl) rfl rfl (Nat.le_of_ble_eq_true rfl) (fun mP hP => ?_)
      refine o_iconst (v := 1) dX8_item_42 rfl (by decide) ?_
      exact o_iret hq dX8_item_43 (Or.inr ⟨by simp [b5], a, by omega, rfl, Or.inr ⟨c25, rfl, by rw [hP, if_pos (ref_fit c25).2.2]⟩⟩)
    · skip
      rw [hR] at c25
      refine o_iload dX8_item_28 rfl (by rfl) ?_
      exact o_iret hq dX8_item_30 (Or.inr ⟨by simp [b5], a, by omega, rfl, Or.inl ⟨c25, hR, rfl⟩⟩)
  · skip
    have b5 := (if10 h1).1 c5
    refine o_iconst (v := (-1)) dX8_item_8 rfl (by decide) ?_
    exact o_iret hq dX8_item_9 (Or.inl ⟨by simp [b5], rfl, rfl⟩)
theorem cpy_ok {mu : Mu} {a b : Nat} {i j n : Int32} (hH : HOK mu) (ha : a < 4) (hb : b < 4) (h1 : fitB (mu 88 a) i n = true) (h2 : fitB (mu 88 b) j n = true) : ¬ i < 0 ∧ ¬ j < 0 ∧ ¬ n < 0 ∧ i.toNatClampNeg + n.toNatClampNeg ≤ 24 ∧ j.toNatClampNeg + n.toNatClampNeg ≤ 24 := by
  obtain ⟨z, I, N, e1, hz, e2, e3, h3⟩ := fit_nI hH ha h1
  obtain ⟨z2, J, N2, f1, hz2, f2, f3, h4⟩ := fit_nI hH hb h2
  have g1 := of_decide_eq_true h1
  have g2 := of_decide_eq_true h2
  have en : N2 = N := (nI_eq (by omega) (by omega)).mp (f3.symm.trans e3)
  refine ⟨g1.1, g2.1, g1.2.1, ?_, ?_⟩
  · rw [e2, e3, nI_clamp (by omega), nI_clamp (by omega)]; omega
  · rw [f2, e3, nI_clamp (by omega), nI_clamp (by omega)]; omega
set_option maxHeartbeats 4000000 in
set_option maxRecDepth 100000 in
theorem c_X8_copy (mu : Mu) (hH : HOK mu) (fr0 i to0 j n : Int32) : Con yX8_copy cX8_copy 6 (some .int) 1 [vC 0, vI fr0, vI i, vI to0, vI j, vI n] mu (fun r mu2 => ((inB fr0 0 3 && inB to0 0 3) = false ∧ r = -1 ∧ mu2 = mu) ∨ ((inB fr0 0 3 && inB to0 0 3) = true ∧ ∃ a b, a < 4 ∧ b < 4 ∧ fr0 = nI a ∧ to0 = nI b ∧ (((mu 88 a = -1 ∨ mu 88 b = -1) ∧ r = -11 ∧ mu2 = mu) ∨ (¬ mu 88 a = -1 ∧ ¬ mu 88 b = -1 ∧ ((¬ mu 87 a = mu 87 b ∧ r = -12 ∧ mu2 = mu) ∨ (mu 87 a = mu 87 b ∧ (((fitB (mu 88 a) i n && fitB (mu 88 b) j n) = false ∧ r = -13 ∧ mu2 = mu) ∨ ((fitB (mu 88 a) i n && fitB (mu 88 b) j n) = true ∧ r = n ∧ mu2 = upM mu (90 + b) (va_cpy (mu (90 + a)) (mu (90 + b)) i.toNatClampNeg j.toNatClampNeg n.toNatClampNeg))))))))) := by
  refine con_of (own := RX8) (by decide) rfl (Nat.le_of_ble_eq_true rfl) (fun X g hq => ?_)
  show WA X g RX8 6 cX8_copy 0 [(0, vC 0), (1, vI fr0), (2, vI i), (3, vI to0), (4, vI j), (5, vI n)] [] mu
  refine o_iload_n dX8_copy_0 rfl rfl (by rfl) ?_
  refine o_iconst (v := 0) dX8_copy_1 rfl (by decide) ?_
  refine o_iconst (v := 3) dX8_copy_2 rfl (by decide) ?_
  refine o_callS cs_X8_isIn ct_X8_60 (c_isIn _ fr0 0 3) hq.2.2.2 (Nat.le_of_ble_eq_true rfl) dX8_copy_3 rfl rfl rfl (Nat.le_of_ble_eq_true rfl) (fun r1 mu1 h1 => ?_)
  obtain ⟨em, h1⟩ := h1
  rw [em]
  refine o_if_eq (tgt := 18) dX8_copy_6 (by decide) rfl (fun (c6 : r1 = 0) => ?_) (fun (c6 : ¬ r1 = 0) => ?_)
  · skip
    have b6 := (if10 h1).1 c6
    refine o_iconst (v := (-1)) dX8_copy_18 rfl (by decide) ?_
    exact o_iret hq dX8_copy_19 (Or.inl ⟨by simp [b6], rfl, rfl⟩)
  · skip
    have b6 := (if10 h1).2 c6
    refine o_iload_n dX8_copy_9 rfl rfl (by rfl) ?_
    refine o_iconst (v := 0) dX8_copy_10 rfl (by decide) ?_
    refine o_iconst (v := 3) dX8_copy_11 rfl (by decide) ?_
    refine o_callS cs_X8_isIn ct_X8_60 (c_isIn _ to0 0 3) hq.2.2.2 (Nat.le_of_ble_eq_true rfl) dX8_copy_12 rfl rfl rfl (Nat.le_of_ble_eq_true rfl) (fun r2 mu2 h2 => ?_)
    obtain ⟨em, h2⟩ := h2
    rw [em]
    refine o_if_ne (tgt := 20) dX8_copy_15 (by decide) rfl (fun (c15 : ¬ r2 = 0) => ?_) (fun (c15 : r2 = 0) => ?_)
    · skip
      have b15 := (if10 h2).2 c15
      obtain ⟨a, ea, -, ha⟩ := inB_nI (l := 0) (m := 3) (by decide) (by decide) b6
      subst ea
      obtain ⟨b, eb, -, hb⟩ := inB_nI (l := 0) (m := 3) (by decide) (by decide) b15
      subst eb
      refine o_aload_n dX8_copy_20 rfl rfl (by rfl) ?_
      refine o_getC (q := 86) cl_X8_56 dX8_copy_21 rfl (by decide) (by rfl) (by rfl) ?_
      refine o_iload_n dX8_copy_24 rfl rfl (by rfl) ?_
      refine o_callV cs_X5_isNothing cv_X8_276 (c_X5_isNothing _ a (by omega)) hq.2.2.2 (Nat.le_of_ble_eq_true rfl) dX8_copy_25 rfl (by decide) (by rfl) (by rfl) (by rfl) rfl rfl (Nat.le_of_ble_eq_true rfl) (fun r3 mu3 h3 => ?_)
      obtain ⟨em, h3⟩ := h3
      rw [em]
      refine o_if_ne (tgt := 42) dX8_copy_28 (by decide) rfl (fun (c28 : ¬ r3 = 0) => ?_) (fun (c28 : r3 = 0) => ?_)
      · skip
        have b28 := (if10 h3).2 c28
        refine o_bipush (v := (-11)) dX8_copy_42 rfl (by decide) ?_
        exact o_iret hq dX8_copy_44 (Or.inr ⟨by simp [b6, b15, b28], a, b, by omega, by omega, rfl, rfl, Or.inl ⟨Or.inl (of_decide_eq_true b28), rfl, rfl⟩⟩)
      · skip
        have b28 := (if10 h3).1 c28
        refine o_aload_n dX8_copy_31 rfl rfl (by rfl) ?_
        refine o_getC (q := 86) cl_X8_56 dX8_copy_32 rfl (by decide) (by rfl) (by rfl) ?_
        refine o_iload_n dX8_copy_35 rfl rfl (by rfl) ?_
        refine o_callV cs_X5_isNothing cv_X8_276 (c_X5_isNothing _ b (by omega)) hq.2.2.2 (Nat.le_of_ble_eq_true rfl) dX8_copy_36 rfl (by decide) (by rfl) (by rfl) (by rfl) rfl rfl (Nat.le_of_ble_eq_true rfl) (fun r4 mu4 h4 => ?_)
        obtain ⟨em, h4⟩ := h4
        rw [em]
        refine o_if_eq (tgt := 45) dX8_copy_39 (by decide) rfl (fun (c39 : r4 = 0) => ?_) (fun (c39 : ¬ r4 = 0) => ?_)
        · skip
          have b39 := (if10 h4).1 c39
          refine o_aload_n dX8_copy_45 rfl rfl (by rfl) ?_
          refine o_getC (q := 86) cl_X8_56 dX8_copy_46 rfl (by decide) (by rfl) (by rfl) ?_
          refine o_getC (q := 87) cl_X8_282 dX8_copy_49 rfl (by decide) (by rfl) (by rfl) ?_
          refine o_iload_n dX8_copy_52 rfl rfl (by rfl) ?_
          refine o_iald dX8_copy_53 rfl (by decide) (by rfl) (by rfl) (vp_in_nI (by omega) (by decide)) ?_
          refine o_aload_n dX8_copy_54 rfl rfl (by rfl) ?_
          refine o_getC (q := 86) cl_X8_56 dX8_copy_55 rfl (by decide) (by rfl) (by rfl) ?_
          refine o_getC (q := 87) cl_X8_282 dX8_copy_58 rfl (by decide) (by rfl) (by rfl) ?_
          refine o_iload_n dX8_copy_61 rfl rfl (by rfl) ?_
          refine o_iald dX8_copy_62 rfl (by decide) (by rfl) (by rfl) (vp_in_nI (by omega) (by decide)) ?_
          refine o_icmp_eq (tgt := 69) dX8_copy_63 (by decide) rfl (fun (c63 : (mu 87 (nI a).toNatClampNeg) = (mu 87 (nI b).toNatClampNeg)) => ?_) (fun (c63 : ¬ (mu 87 (nI a).toNatClampNeg) = (mu 87 (nI b).toNatClampNeg)) => ?_)
          · skip
            refine o_aload_n dX8_copy_69 rfl rfl (by rfl) ?_
            refine o_getC (q := 86) cl_X8_56 dX8_copy_70 rfl (by decide) (by rfl) (by rfl) ?_
            refine o_iload_n dX8_copy_73 rfl rfl (by rfl) ?_
            refine o_iload_n dX8_copy_74 rfl rfl (by rfl) ?_
            refine o_iload dX8_copy_75 rfl (by rfl) ?_
            refine o_callV cs_X5_fits cv_X8_285 (c_X5_fits _ a (by omega) i n) hq.2.2.2 (Nat.le_of_ble_eq_true rfl) dX8_copy_77 rfl (by decide) (by rfl) (by rfl) (by rfl) rfl rfl (Nat.le_of_ble_eq_true rfl) (fun r5 mu5 h5 => ?_)
            obtain ⟨em, h5⟩ := h5
            rw [em]
            refine o_if_eq (tgt := 98) dX8_copy_80 (by decide) rfl (fun (c80 : r5 = 0) => ?_) (fun (c80 : ¬ r5 = 0) => ?_)
            · skip
              have b80 := (if10 h5).1 c80
              refine o_bipush (v := (-13)) dX8_copy_98 rfl (by decide) ?_
              exact o_iret hq dX8_copy_100 (Or.inr ⟨by simp [b6, b15, b28, b39, b80], a, b, by omega, by omega, rfl, rfl, Or.inr ⟨fun e => b28 (decide_eq_true e), fun e => b39 (decide_eq_true e), Or.inr ⟨by rw [nI_clamp (by omega), nI_clamp (by omega)] at c63; exact c63, Or.inl ⟨by simp [b6, b15, b28, b39, b80], rfl, rfl⟩⟩⟩⟩)
            · skip
              have b80 := (if10 h5).2 c80
              refine o_aload_n dX8_copy_83 rfl rfl (by rfl) ?_
              refine o_getC (q := 86) cl_X8_56 dX8_copy_84 rfl (by decide) (by rfl) (by rfl) ?_
              refine o_iload_n dX8_copy_87 rfl rfl (by rfl) ?_
              refine o_iload dX8_copy_88 rfl (by rfl) ?_
              refine o_iload dX8_copy_90 rfl (by rfl) ?_
              refine o_callV cs_X5_fits cv_X8_285 (c_X5_fits _ b (by omega) j n) hq.2.2.2 (Nat.le_of_ble_eq_true rfl) dX8_copy_92 rfl (by decide) (by rfl) (by rfl) (by rfl) rfl rfl (Nat.le_of_ble_eq_true rfl) (fun r6 mu6 h6 => ?_)
              obtain ⟨em, h6⟩ := h6
              rw [em]
              refine o_if_ne (tgt := 101) dX8_copy_95 (by decide) rfl (fun (c95 : ¬ r6 = 0) => ?_) (fun (c95 : r6 = 0) => ?_)
              · skip
                have b95 := (if10 h6).2 c95
                refine o_aload_n dX8_copy_101 rfl rfl (by rfl) ?_
                refine o_getC (q := 86) cl_X8_56 dX8_copy_102 rfl (by decide) (by rfl) (by rfl) ?_
                refine o_getC (q := 89) cl_X8_288 dX8_copy_105 rfl (by decide) (by rfl) (by rfl) ?_
                refine o_iload_n dX8_copy_108 rfl rfl (by rfl) ?_
                refine o_aald dX8_copy_109 rfl (by decide) (by rfl) (by rfl) (vp_in_nI (by omega) (by decide)) ?_
                refine o_iload_n dX8_copy_110 rfl rfl (by rfl) ?_
                refine o_aload_n dX8_copy_111 rfl rfl (by rfl) ?_
                refine o_getC (q := 86) cl_X8_56 dX8_copy_112 rfl (by decide) (by rfl) (by rfl) ?_
                refine o_getC (q := 89) cl_X8_288 dX8_copy_115 rfl (by decide) (by rfl) (by rfl) ?_
                refine o_iload_n dX8_copy_118 rfl rfl (by rfl) ?_
                refine o_aald dX8_copy_119 rfl (by decide) (by rfl) (by rfl) (vp_in_nI (by omega) (by decide)) ?_
                refine o_iload dX8_copy_120 rfl (by rfl) ?_
                refine o_iload dX8_copy_122 rfl (by rfl) ?_
                refine o_copy (d := 0) ac_292 dX8_copy_124 rfl (by rw [nI_clamp (by omega)]; exact (rowZ a (by omega)).1) (by rw [nI_clamp (by omega)]; exact (rowZ a (by omega)).2.1) (by rw [nI_clamp (by omega)]; exact (rowZ a (by omega)).2.2) (by rw [nI_clamp (by omega)]; exact (rowZ b (by omega)).1) (by rw [nI_clamp (by omega)]; exact (rowZ b (by omega)).2.1) (by rw [nI_clamp (by omega)]; exact (rowZ b (by omega)).2.2) (cpy_ok hH (by omega) (by omega) b80 b95) hq.2.2.2 (Nat.le_of_ble_eq_true rfl) ?_
                refine o_iload dX8_copy_127 rfl (by rfl) ?_
                exact o_iret hq dX8_copy_129 (Or.inr ⟨by simp [b6, b15, b28, b39, b80, b95], a, b, by omega, by omega, rfl, rfl, Or.inr ⟨fun e => b28 (decide_eq_true e), fun e => b39 (decide_eq_true e), Or.inr ⟨by rw [nI_clamp (by omega), nI_clamp (by omega)] at c63; exact c63, Or.inr ⟨by simp [b6, b15, b28, b39, b80, b95], rfl, by rw [nI_clamp (show a < 2 ^ 31 by omega), nI_clamp (show b < 2 ^ 31 by omega)]⟩⟩⟩⟩)
              · skip
                have b95 := (if10 h6).1 c95
                refine o_bipush (v := (-13)) dX8_copy_98 rfl (by decide) ?_
                exact o_iret hq dX8_copy_100 (Or.inr ⟨by simp [b6, b15, b28, b39, b80, b95], a, b, by omega, by omega, rfl, rfl, Or.inr ⟨fun e => b28 (decide_eq_true e), fun e => b39 (decide_eq_true e), Or.inr ⟨by rw [nI_clamp (by omega), nI_clamp (by omega)] at c63; exact c63, Or.inl ⟨by simp [b6, b15, b28, b39, b80, b95], rfl, rfl⟩⟩⟩⟩)
          · skip
            refine o_bipush (v := (-12)) dX8_copy_66 rfl (by decide) ?_
            exact o_iret hq dX8_copy_68 (Or.inr ⟨by simp [b6, b15, b28, b39], a, b, by omega, by omega, rfl, rfl, Or.inr ⟨fun e => b28 (decide_eq_true e), fun e => b39 (decide_eq_true e), Or.inl ⟨by rw [nI_clamp (by omega), nI_clamp (by omega)] at c63; exact c63, rfl, rfl⟩⟩⟩)
        · skip
          have b39 := (if10 h4).2 c39
          refine o_bipush (v := (-11)) dX8_copy_42 rfl (by decide) ?_
          exact o_iret hq dX8_copy_44 (Or.inr ⟨by simp [b6, b15, b28, b39], a, b, by omega, by omega, rfl, rfl, Or.inl ⟨Or.inr (of_decide_eq_true b39), rfl, rfl⟩⟩)
    · skip
      have b15 := (if10 h2).1 c15
      refine o_iconst (v := (-1)) dX8_copy_18 rfl (by decide) ?_
      exact o_iret hq dX8_copy_19 (Or.inl ⟨by simp [b6, b15], rfl, rfl⟩)
set_option maxHeartbeats 4000000 in
set_option maxRecDepth 100000 in
theorem c_X8_image (mu : Mu) (z1 z2 z3 : Nat) (hz1 : z1 ≤ 4) (hz2 : z2 ≤ 6) (hz3 : z3 ≤ 8) (hd1 : mu 29 1 = nI 5) (hd2 : mu 35 1 = nI 3) (hd3 : mu 43 1 = nI 4) (hs1 : mu 3 1 = nI 5) (hs2 : mu 9 1 = nI 3) (hs3 : mu 17 1 = nI 4) (ez1 : mu 3 2 = nI z1) (ez2 : mu 9 2 = nI z2) (ez3 : mu 17 2 = nI z3) : Con yX8_image cX8_image 1 (some .int) 3 [vC 0] mu (fun r mu2 => r = 1 ∧ ∃ m, SC mu m 27 1 z1 z2 z3 ∧ mu2 = upF m 0 2 1) := by
  refine con_of (own := RX8) (by decide) rfl (Nat.le_of_ble_eq_true rfl) (fun X g hq => ?_)
  show WA X g RX8 1 cX8_image 0 [(0, vC 0)] [] mu
  refine o_aload_n dX8_image_0 rfl rfl (by rfl) ?_
  refine o_getC (q := 27) cl_X8_16 dX8_image_1 rfl (by decide) (by rfl) (by rfl) ?_
  refine o_aload_n dX8_image_4 rfl rfl (by rfl) ?_
  refine o_getC (q := 1) cl_X8_10 dX8_image_5 rfl (by decide) (by rfl) (by rfl) ?_
  refine o_callVV cs_X4_takeAll cv_X8_270 (c_takeAll_27_1 _ z1 z2 z3 hz1 hz2 hz3 hd1 hd2 hd3 hs1 hs2 hs3 ez1 ez2 ez3) hq.2.2.2 (Nat.le_of_ble_eq_true rfl) dX8_image_8 rfl (by decide) (by rfl) (by rfl) (by rfl) rfl rfl (Nat.le_of_ble_eq_true rfl) (fun mT hT => ?_)
  refine o_aload_n dX8_image_11 rfl rfl (by rfl) ?_
  refine o_iconst (v := 1) dX8_image_12 rfl (by decide) ?_
  refine o_put cl_X8_19 cp_X8_2 dX8_image_13 rfl (by decide) (by rfl) (by rfl) (fitZ (Or.inr rfl)) ?_
  refine o_iconst (v := 1) dX8_image_16 rfl (by decide) ?_
  exact o_iret hq dX8_image_17 ⟨rfl, mT, hT, rfl⟩
set_option maxHeartbeats 4000000 in
set_option maxRecDepth 100000 in
theorem c_X8_restore (mu : Mu) (z1 z2 z3 : Nat) (hz1 : z1 ≤ 4) (hz2 : z2 ≤ 6) (hz3 : z3 ≤ 8) (hd1 : mu 3 1 = nI 5) (hd2 : mu 9 1 = nI 3) (hd3 : mu 17 1 = nI 4) (hs1 : mu 29 1 = nI 5) (hs2 : mu 35 1 = nI 3) (hs3 : mu 43 1 = nI 4) (ez1 : mu 29 2 = nI z1) (ez2 : mu 35 2 = nI z2) (ez3 : mu 43 2 = nI z3) : Con yX8_restore cX8_restore 1 (some .int) 3 [vC 0] mu (fun r mu2 => (mu 0 2 = 0 ∧ r = -4 ∧ mu2 = mu) ∨ (¬ mu 0 2 = 0 ∧ r = 1 ∧ SC mu mu2 1 27 z1 z2 z3)) := by
  refine con_of (own := RX8) (by decide) rfl (Nat.le_of_ble_eq_true rfl) (fun X g hq => ?_)
  show WA X g RX8 1 cX8_restore 0 [(0, vC 0)] [] mu
  refine o_aload_n dX8_restore_0 rfl rfl (by rfl) ?_
  refine o_getI cl_X8_19 dX8_restore_1 rfl (by decide) (by rfl) (by rfl) ?_
  refine o_if_ne (tgt := 10) dX8_restore_4 (by decide) rfl (fun (c4 : ¬ (mu 0 2) = 0) => ?_) (fun (c4 : (mu 0 2) = 0) => ?_)
  · skip
    refine o_aload_n dX8_restore_10 rfl rfl (by rfl) ?_
    refine o_getC (q := 1) cl_X8_10 dX8_restore_11 rfl (by decide) (by rfl) (by rfl) ?_
    refine o_aload_n dX8_restore_14 rfl rfl (by rfl) ?_
    refine o_getC (q := 27) cl_X8_16 dX8_restore_15 rfl (by decide) (by rfl) (by rfl) ?_
    refine o_callVV cs_X4_takeAll cv_X8_270 (c_takeAll_1_27 _ z1 z2 z3 hz1 hz2 hz3 hd1 hd2 hd3 hs1 hs2 hs3 ez1 ez2 ez3) hq.2.2.2 (Nat.le_of_ble_eq_true rfl) dX8_restore_18 rfl (by decide) (by rfl) (by rfl) (by rfl) rfl rfl (Nat.le_of_ble_eq_true rfl) (fun mT hT => ?_)
    refine o_iconst (v := 1) dX8_restore_21 rfl (by decide) ?_
    exact o_iret hq dX8_restore_22 (Or.inr ⟨c4, rfl, hT⟩)
  · skip
    refine o_bipush (v := (-4)) dX8_restore_7 rfl (by decide) ?_
    exact o_iret hq dX8_restore_9 (Or.inl ⟨c4, rfl, rfl⟩)
