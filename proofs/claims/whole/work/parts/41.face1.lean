theorem sw3 (x : Int32) : x = 0 ∨ x = 1 ∨ x = 2 ∨ (x.toInt < 0 ∨ 2 < x.toInt) := by
  rcases Int.lt_or_le x.toInt 0 with h | h
  · exact Or.inr (Or.inr (Or.inr (Or.inl h)))
  · rcases Int.lt_or_le 2 x.toInt with h2 | h2
    · exact Or.inr (Or.inr (Or.inr (Or.inr h2)))
    · obtain ⟨n, h3, h4⟩ := nI_of (x := x) (by rw [i_lt]; show ¬ _ < (0 : Int); omega)
      have e : x.toInt = n := by rw [h4, nI_toInt h3]
      match n, (show n < 3 by omega), h4 with
      | 0, _, h4 => exact Or.inl h4
      | 1, _, h4 => exact Or.inr (Or.inl h4)
      | 2, _, h4 => exact Or.inr (Or.inr (Or.inl h4))
      | n + 3, h, _ => omega
theorem sw4 (x : Int32) : x = 0 ∨ x = 1 ∨ x = 2 ∨ x = 3 ∨ (x.toInt < 0 ∨ 3 < x.toInt) := by
  rcases Int.lt_or_le x.toInt 0 with h | h
  · exact Or.inr (Or.inr (Or.inr (Or.inr (Or.inl h))))
  · rcases Int.lt_or_le 3 x.toInt with h2 | h2
    · exact Or.inr (Or.inr (Or.inr (Or.inr (Or.inr h2))))
    · obtain ⟨n, h3, h4⟩ := nI_of (x := x) (by rw [i_lt]; show ¬ _ < (0 : Int); omega)
      have e : x.toInt = n := by rw [h4, nI_toInt h3]
      match n, (show n < 4 by omega), h4 with
      | 0, _, h4 => exact Or.inl h4
      | 1, _, h4 => exact Or.inr (Or.inl h4)
      | 2, _, h4 => exact Or.inr (Or.inr (Or.inl h4))
      | 3, _, h4 => exact Or.inr (Or.inr (Or.inr (Or.inl h4)))
      | n + 4, h, _ => omega
theorem sw8 (x : Int32) : x = 0 ∨ x = 1 ∨ x = 2 ∨ x = 3 ∨ x = 4 ∨ x = 5 ∨ x = 6 ∨ x = 7 ∨ (x.toInt < 0 ∨ 7 < x.toInt) := by
  rcases Int.lt_or_le x.toInt 0 with h | h
  · exact Or.inr (Or.inr (Or.inr (Or.inr (Or.inr (Or.inr (Or.inr (Or.inr (Or.inl h))))))))
  · rcases Int.lt_or_le 7 x.toInt with h2 | h2
    · exact Or.inr (Or.inr (Or.inr (Or.inr (Or.inr (Or.inr (Or.inr (Or.inr (Or.inr h2))))))))
    · obtain ⟨n, h3, h4⟩ := nI_of (x := x) (by rw [i_lt]; show ¬ _ < (0 : Int); omega)
      have e : x.toInt = n := by rw [h4, nI_toInt h3]
      match n, (show n < 8 by omega), h4 with
      | 0, _, h4 => exact Or.inl h4
      | 1, _, h4 => exact Or.inr (Or.inl h4)
      | 2, _, h4 => exact Or.inr (Or.inr (Or.inl h4))
      | 3, _, h4 => exact Or.inr (Or.inr (Or.inr (Or.inl h4)))
      | 4, _, h4 => exact Or.inr (Or.inr (Or.inr (Or.inr (Or.inl h4))))
      | 5, _, h4 => exact Or.inr (Or.inr (Or.inr (Or.inr (Or.inr (Or.inl h4)))))
      | 6, _, h4 => exact Or.inr (Or.inr (Or.inr (Or.inr (Or.inr (Or.inr (Or.inl h4))))))
      | 7, _, h4 => exact Or.inr (Or.inr (Or.inr (Or.inr (Or.inr (Or.inr (Or.inr (Or.inl h4)))))))
      | n + 8, h, _ => omega
theorem st_64 : Cond.fieldLink RX8 64 "BallInCup" "LEAST_SETTINGS" "[I" ∈ tb0 := mem0 (i := 357) (by decide +kernel) rfl
theorem st_68 : Cond.fieldLink RX8 68 "BallInCup" "MOST_SETTINGS" "[I" ∈ tb0 := mem0 (i := 359) (by decide +kernel) rfl
theorem inB_nI {x : Int32} {l m : Nat} (hl : l < 2 ^ 31) (hm : m < 2 ^ 31) (h : inB x (nI l) (nI m) = true) : ∃ k, x = nI k ∧ l ≤ k ∧ k ≤ m := by
  obtain ⟨h1, h2⟩ := inB_t h
  rw [i_lt, nI_toInt hl] at h1
  rw [i_lt, nI_toInt hm] at h2
  obtain ⟨n, h3, h4⟩ := nI_of (x := x) (by rw [i_lt]; show ¬ _ < (0 : Int); omega)
  have e : x.toInt = n := by rw [h4, nI_toInt h3]
  exact ⟨n, h4, by omega, by omega⟩
theorem inB_in {x : Int32} {m : Nat} (hm : m < 1000000) (h : inB x 0 (nI m) = true) : vp_in x (m + 1) := by
  obtain ⟨h1, h2⟩ := inB_t h
  rw [vp_in_iff]
  rw [i_lt] at h1
  rw [i_lt, nI_toInt (by omega)] at h2
  have : (0 : Int32).toInt = 0 := rfl
  omega
theorem inB_rg {x : Int32} {l m : Int} (h : inB x (Int32.ofInt l) (Int32.ofInt m) = true) (h1 : -2147483648 ≤ l) (h2 : l < 2147483648) (h3 : -2147483648 ≤ m) (h4 : m < 2147483648) : rg x l m := by
  obtain ⟨a, b⟩ := inB_t h
  rw [i_lt, i_ofInt h1 h2] at a
  rw [i_lt, i_ofInt h3 h4] at b
  exact ⟨by omega, by omega⟩
theorem hasB_nI {mu : Mu} {k z : Nat} {x : Int32} (ez : mu k 2 = nI z) (hz : z < 1000000) (h : hasB mu k x = true) : ∃ i, x = nI i ∧ i < z := by
  obtain ⟨h1, h2⟩ := hasB_t h
  rw [i_lt] at h1
  rw [ez, i_le, nI_toInt (by omega)] at h2
  obtain ⟨n, h3, h4⟩ := nI_of (x := x) (by rw [i_lt]; exact h1)
  have e : x.toInt = n := by rw [h4, nI_toInt h3]
  exact ⟨n, h4, by omega⟩
set_option maxHeartbeats 4000000 in
set_option maxRecDepth 100000 in
theorem c_X8_set (mu : Mu) (what v : Int32) : Con yX8_set cX8_set 4 (some .int) 1 [vC 0, vI what, vI v] mu (fun r mu2 => ((inB what 0 2 && inB v (leastS what.toNatClampNeg) (mostS what.toNatClampNeg)) = true ∧ r = mu 2 what.toNatClampNeg ∧ mu2 = upF mu 2 what.toNatClampNeg v) ∨ ((inB what 0 2 && inB v (leastS what.toNatClampNeg) (mostS what.toNatClampNeg)) = false ∧ r = -1 ∧ mu2 = mu)) := by
  refine con_of (own := RX8) (by decide) rfl (Nat.le_of_ble_eq_true rfl) (fun X g hq => ?_)
  show WA X g RX8 4 cX8_set 0 [(0, vC 0), (1, vI what), (2, vI v)] [] mu
  refine o_iload_n dX8_set_0 rfl rfl (by rfl) ?_
  refine o_iconst (v := 0) dX8_set_1 rfl (by decide) ?_
  refine o_iconst (v := 2) dX8_set_2 rfl (by decide) ?_
  refine o_callS cs_X8_isIn ct_X8_60 (c_isIn _ what 0 2) hq.2.2.2 (Nat.le_of_ble_eq_true rfl) dX8_set_3 rfl rfl rfl (Nat.le_of_ble_eq_true rfl) (fun r1 mu1 h1 => ?_)
  obtain ⟨em, h1⟩ := h1
  rw [em]
  refine o_if_eq (tgt := 26) dX8_set_6 (by decide) rfl (fun (c6 : r1 = 0) => ?_) (fun (c6 : ¬ r1 = 0) => ?_)
  · skip
    have b6 := (if10 h1).1 c6
    refine o_iconst (v := (-1)) dX8_set_26 rfl (by decide) ?_
    exact o_iret hq dX8_set_27 (Or.inr ⟨by simp [b6], rfl, rfl⟩)
  · skip
    have b6 := (if10 h1).2 c6
    refine o_iload_n dX8_set_9 rfl rfl (by rfl) ?_
    refine o_gets0 dX8_set_10 rfl st_64 ?_
    refine o_iload_n dX8_set_13 rfl rfl (by rfl) ?_
    refine o_ti0 dX8_set_14 rfl (inB_in (m := 2) (by decide) b6) ?_
    refine o_gets1 dX8_set_15 rfl st_68 ?_
    refine o_iload_n dX8_set_18 rfl rfl (by rfl) ?_
    refine o_ti1 dX8_set_19 rfl (inB_in (m := 2) (by decide) b6) ?_
    refine o_callS cs_X8_isIn ct_X8_60 (c_isIn _ v _ _) hq.2.2.2 (Nat.le_of_ble_eq_true rfl) dX8_set_20 rfl rfl rfl (Nat.le_of_ble_eq_true rfl) (fun r2 mu2 h2 => ?_)
    obtain ⟨em, h2⟩ := h2
    rw [em]
    refine o_if_ne (tgt := 28) dX8_set_23 (by decide) rfl (fun (c23 : ¬ r2 = 0) => ?_) (fun (c23 : r2 = 0) => ?_)
    · skip
      have b23 := (if10 h2).2 c23
      refine o_aload_n dX8_set_28 rfl rfl (by rfl) ?_
      refine o_getC (q := 1) cl_X8_10 dX8_set_29 rfl (by decide) (by rfl) (by rfl) ?_
      refine o_getC (q := 2) cl_X8_71 dX8_set_32 rfl (by decide) (by rfl) (by rfl) ?_
      refine o_iload_n dX8_set_35 rfl rfl (by rfl) ?_
      refine o_iald dX8_set_36 rfl (by decide) (by rfl) (by rfl) (inB_in (m := 2) (by decide) b6) ?_
      refine o_istore_n (L' := [(0, vC 0), (1, vI what), (2, vI v), (3, vI (mu 2 what.toNatClampNeg))]) dX8_set_37 rfl rfl (by decide) (by rfl) (by rfl) ?_
      refine o_aload_n dX8_set_38 rfl rfl (by rfl) ?_
      refine o_getC (q := 1) cl_X8_10 dX8_set_39 rfl (by decide) (by rfl) (by rfl) ?_
      refine o_getC (q := 2) cl_X8_71 dX8_set_42 rfl (by decide) (by rfl) (by rfl) ?_
      refine o_iload_n dX8_set_45 rfl rfl (by rfl) ?_
      refine o_iload_n dX8_set_46 rfl rfl (by rfl) ?_
      refine o_iast dX8_set_47 rfl (by decide) (by rfl) (by rfl) (inB_in (m := 2) (by decide) b6) ?_
      refine o_iload_n dX8_set_48 rfl rfl (by rfl) ?_
      exact o_iret hq dX8_set_49 (Or.inl ⟨by simp [b6, b23], rfl, rfl⟩)
    · skip
      have b23 := (if10 h2).1 c23
      refine o_iconst (v := (-1)) dX8_set_26 rfl (by decide) ?_
      exact o_iret hq dX8_set_27 (Or.inr ⟨by simp [b6, b23], rfl, rfl⟩)
set_option maxHeartbeats 4000000 in
set_option maxRecDepth 100000 in
theorem c_X8_cup (mu : Mu) (hS : SOK mu 1) (x y wd0 worth spk : Int32) : Con yX8_cup cX8_cup 7 (some .int) 3 [vC 0, vI x, vI y, vI wd0, vI worth, vI spk] mu (fun r mu2 => ((inB x (-9) 9 && inB y (-9) 9 && inB wd0 0 9 && inB worth 0 99) = false ∧ r = -1 ∧ mu2 = mu) ∨ ((inB x (-9) 9 && inB y (-9) 9 && inB wd0 0 9 && inB worth 0 99) = true ∧ fullB mu 3 4 = true ∧ r = -3 ∧ mu2 = mu) ∨ ((inB x (-9) 9 && inB y (-9) 9 && inB wd0 0 9 && inB worth 0 99) = true ∧ ∃ z, z < 4 ∧ mu 3 2 = nI z ∧ r = nI z ∧ AR mu mu2 3 5 z (fun j => if j = 0 then x else if j = 1 then y else if j = 2 then wd0 else if j = 3 then worth else (if spk = 0 then 0 else 1)) 5)) := by
  refine con_of (own := RX8) (by decide) rfl (Nat.le_of_ble_eq_true rfl) (fun X g hq => ?_)
  show WA X g RX8 7 cX8_cup 0 [(0, vC 0), (1, vI x), (2, vI y), (3, vI wd0), (4, vI worth), (5, vI spk)] [] mu
  refine o_iload_n dX8_cup_0 rfl rfl (by rfl) ?_
  refine o_bipush (v := (-9)) dX8_cup_1 rfl (by decide) ?_
  refine o_bipush (v := 9) dX8_cup_3 rfl (by decide) ?_
  refine o_callS cs_X8_isIn ct_X8_60 (c_isIn _ x ((-9)) 9) hq.2.2.2 (Nat.le_of_ble_eq_true rfl) dX8_cup_5 rfl rfl rfl (Nat.le_of_ble_eq_true rfl) (fun r1 mu1 h1 => ?_)
  obtain ⟨em, h1⟩ := h1
  rw [em]
  refine o_if_eq (tgt := 26) dX8_cup_8 (by decide) rfl (fun (c8 : r1 = 0) => ?_) (fun (c8 : ¬ r1 = 0) => ?_)
  · skip
    have b8 := (if10 h1).1 c8
    refine o_iconst (v := 0) dX8_cup_26 rfl (by decide) ?_
    refine o_istore (L' := [(0, vC 0), (1, vI x), (2, vI y), (3, vI wd0), (4, vI worth), (5, vI spk), (6, vI 0)]) dX8_cup_27 rfl (by decide) (by rfl) (by rfl) ?_
    refine o_iload dX8_cup_29 rfl (by rfl) ?_
    refine o_if_eq (tgt := 55) dX8_cup_31 (by decide) rfl (fun (c31 : (0 : Int32) = 0) => ?_) (fun (c31 : ¬ (0 : Int32) = 0) => ?_)
    · skip
      refine o_iconst (v := (-1)) dX8_cup_55 rfl (by decide) ?_
      exact o_iret hq dX8_cup_56 (Or.inl ⟨by simp [b8], rfl, rfl⟩)
    · skip
      exact absurd (by decide) c31
  · skip
    have b8 := (if10 h1).2 c8
    refine o_iload_n dX8_cup_11 rfl rfl (by rfl) ?_
    refine o_bipush (v := (-9)) dX8_cup_12 rfl (by decide) ?_
    refine o_bipush (v := 9) dX8_cup_14 rfl (by decide) ?_
    refine o_callS cs_X8_isIn ct_X8_60 (c_isIn _ y ((-9)) 9) hq.2.2.2 (Nat.le_of_ble_eq_true rfl) dX8_cup_16 rfl rfl rfl (Nat.le_of_ble_eq_true rfl) (fun r2 mu2 h2 => ?_)
    obtain ⟨em, h2⟩ := h2
    rw [em]
    refine o_if_eq (tgt := 26) dX8_cup_19 (by decide) rfl (fun (c19 : r2 = 0) => ?_) (fun (c19 : ¬ r2 = 0) => ?_)
    · skip
      have b19 := (if10 h2).1 c19
      refine o_iconst (v := 0) dX8_cup_26 rfl (by decide) ?_
      refine o_istore (L' := [(0, vC 0), (1, vI x), (2, vI y), (3, vI wd0), (4, vI worth), (5, vI spk), (6, vI 0)]) dX8_cup_27 rfl (by decide) (by rfl) (by rfl) ?_
      refine o_iload dX8_cup_29 rfl (by rfl) ?_
      refine o_if_eq (tgt := 55) dX8_cup_31 (by decide) rfl (fun (c31 : (0 : Int32) = 0) => ?_) (fun (c31 : ¬ (0 : Int32) = 0) => ?_)
      · skip
        refine o_iconst (v := (-1)) dX8_cup_55 rfl (by decide) ?_
        exact o_iret hq dX8_cup_56 (Or.inl ⟨by simp [b8, b19], rfl, rfl⟩)
      · skip
        exact absurd (by decide) c31
    · skip
      have b19 := (if10 h2).2 c19
      refine o_iconst (v := 1) dX8_cup_22 rfl (by decide) ?_
      refine o_goto (tgt := 27) dX8_cup_23 (by decide) ?_
      refine o_istore (L' := [(0, vC 0), (1, vI x), (2, vI y), (3, vI wd0), (4, vI worth), (5, vI spk), (6, vI 1)]) dX8_cup_27 rfl (by decide) (by rfl) (by rfl) ?_
      refine o_iload dX8_cup_29 rfl (by rfl) ?_
      refine o_if_eq (tgt := 55) dX8_cup_31 (by decide) rfl (fun (c31 : (1 : Int32) = 0) => ?_) (fun (c31 : ¬ (1 : Int32) = 0) => ?_)
      · skip
        exact absurd c31 (by decide)
      · skip
        refine o_iload_n dX8_cup_34 rfl rfl (by rfl) ?_
        refine o_iconst (v := 0) dX8_cup_35 rfl (by decide) ?_
        refine o_bipush (v := 9) dX8_cup_36 rfl (by decide) ?_
        refine o_callS cs_X8_isIn ct_X8_60 (c_isIn _ wd0 0 9) hq.2.2.2 (Nat.le_of_ble_eq_true rfl) dX8_cup_38 rfl rfl rfl (Nat.le_of_ble_eq_true rfl) (fun r3 mu3 h3 => ?_)
        obtain ⟨em, h3⟩ := h3
        rw [em]
        refine o_if_eq (tgt := 55) dX8_cup_41 (by decide) rfl (fun (c41 : r3 = 0) => ?_) (fun (c41 : ¬ r3 = 0) => ?_)
        · skip
          have b41 := (if10 h3).1 c41
          refine o_iconst (v := (-1)) dX8_cup_55 rfl (by decide) ?_
          exact o_iret hq dX8_cup_56 (Or.inl ⟨by simp [b8, b19, b41], rfl, rfl⟩)
        · skip
          have b41 := (if10 h3).2 c41
          refine o_iload dX8_cup_44 rfl (by rfl) ?_
          refine o_iconst (v := 0) dX8_cup_46 rfl (by decide) ?_
          refine o_bipush (v := 99) dX8_cup_47 rfl (by decide) ?_
          refine o_callS cs_X8_isIn ct_X8_60 (c_isIn _ worth 0 99) hq.2.2.2 (Nat.le_of_ble_eq_true rfl) dX8_cup_49 rfl rfl rfl (Nat.le_of_ble_eq_true rfl) (fun r4 mu4 h4 => ?_)
          obtain ⟨em, h4⟩ := h4
          rw [em]
          refine o_if_ne (tgt := 57) dX8_cup_52 (by decide) rfl (fun (c52 : ¬ r4 = 0) => ?_) (fun (c52 : r4 = 0) => ?_)
          · skip
            have b52 := (if10 h4).2 c52
            refine o_aload_n dX8_cup_57 rfl rfl (by rfl) ?_
            refine o_getC (q := 1) cl_X8_10 dX8_cup_58 rfl (by decide) (by rfl) (by rfl) ?_
            refine o_getC (q := 3) cl_X8_74 dX8_cup_61 rfl (by decide) (by rfl) (by rfl) ?_
            refine o_callV cs_X6_isFull cv_X8_78 (c_isFull 3 4 5 tab3 _) hq.2.2.2 (Nat.le_of_ble_eq_true rfl) dX8_cup_64 rfl (by decide) (by rfl) (by rfl) (by rfl) rfl rfl (Nat.le_of_ble_eq_true rfl) (fun r5 mu5 h5 => ?_)
            obtain ⟨em, h5⟩ := h5
            rw [em]
            refine o_if_eq (tgt := 73) dX8_cup_67 (by decide) rfl (fun (c67 : r5 = 0) => ?_) (fun (c67 : ¬ r5 = 0) => ?_)
            · skip
              have b67 := (if10 h5).1 c67
              obtain ⟨-, z, hz4, ez⟩ := hS.t3
              have hz : z < 4 := Nat.lt_of_le_of_ne hz4 (fun e => b67 (decide_eq_true (by rw [ez, e]; exact nI_nlt (Nat.le_refl _) (by decide))))
              refine o_aload_n dX8_cup_73 rfl rfl (by rfl) ?_
              refine o_getC (q := 1) cl_X8_10 dX8_cup_74 rfl (by decide) (by rfl) (by rfl) ?_
              refine o_getC (q := 3) cl_X8_74 dX8_cup_77 rfl (by decide) (by rfl) (by rfl) ?_
              refine o_iload_n dX8_cup_80 rfl rfl (by rfl) ?_
              refine o_iload_n dX8_cup_81 rfl rfl (by rfl) ?_
              refine o_iload_n dX8_cup_82 rfl rfl (by rfl) ?_
              refine o_iload dX8_cup_83 rfl (by rfl) ?_
              refine o_iload dX8_cup_85 rfl (by rfl) ?_
              refine o_if_eq (tgt := 94) dX8_cup_87 (by decide) rfl (fun (c87 : spk = 0) => ?_) (fun (c87 : ¬ spk = 0) => ?_)
              · skip
                refine o_iconst (v := 0) dX8_cup_94 rfl (by decide) ?_
                refine o_callS cs_X8_addCup ct_X8_84 (c_X8_addCup 3 tab3 _ z hS.t3.1 ez hz x y wd0 worth 0) hq.2.2.2 (Nat.le_of_ble_eq_true rfl) dX8_cup_95 rfl rfl rfl (Nat.le_of_ble_eq_true rfl) (fun rA mA hA => ?_)
                exact o_iret hq dX8_cup_98 (Or.inr (Or.inr ⟨by simp [b8, b19, b41, b52, b67], z, hz, ez, hA.1, by rw [if_pos c87]; exact hA.2⟩))
              · skip
                refine o_iconst (v := 1) dX8_cup_90 rfl (by decide) ?_
                refine o_goto (tgt := 95) dX8_cup_91 (by decide) ?_
                refine o_callS cs_X8_addCup ct_X8_84 (c_X8_addCup 3 tab3 _ z hS.t3.1 ez hz x y wd0 worth 1) hq.2.2.2 (Nat.le_of_ble_eq_true rfl) dX8_cup_95 rfl rfl rfl (Nat.le_of_ble_eq_true rfl) (fun rA mA hA => ?_)
                exact o_iret hq dX8_cup_98 (Or.inr (Or.inr ⟨by simp [b8, b19, b41, b52, b67], z, hz, ez, hA.1, by rw [if_neg c87]; exact hA.2⟩))
            · skip
              have b67 := (if10 h5).2 c67
              refine o_bipush (v := (-3)) dX8_cup_70 rfl (by decide) ?_
              exact o_iret hq dX8_cup_72 (Or.inr (Or.inl ⟨by simp [b8, b19, b41, b52, b67], b67, rfl, rfl⟩))
          · skip
            have b52 := (if10 h4).1 c52
            refine o_iconst (v := (-1)) dX8_cup_55 rfl (by decide) ?_
            exact o_iret hq dX8_cup_56 (Or.inl ⟨by simp [b8, b19, b41, b52], rfl, rfl⟩)
set_option maxHeartbeats 4000000 in
set_option maxRecDepth 100000 in
theorem c_X8_part (mu : Mu) (hS : SOK mu 1) (stp u v : Int32) : Con yX8_part cX8_part 5 (some .int) 3 [vC 0, vI stp, vI u, vI v] mu (fun r mu2 => ((inB u (-9) 9 && inB v (-9) 9 && inB stp 1 20) = false ∧ r = -1 ∧ mu2 = mu) ∨ ((inB u (-9) 9 && inB v (-9) 9 && inB stp 1 20) = true ∧ fullB mu 9 6 = true ∧ r = -3 ∧ mu2 = mu) ∨ ((inB u (-9) 9 && inB v (-9) 9 && inB stp 1 20) = true ∧ ∃ z, z < 6 ∧ mu 9 2 = nI z ∧ r = nI z ∧ AR mu mu2 9 3 z (fun j => if j = 0 then stp else if j = 1 then u else v) 3)) := by
  refine con_of (own := RX8) (by decide) rfl (Nat.le_of_ble_eq_true rfl) (fun X g hq => ?_)
  show WA X g RX8 5 cX8_part 0 [(0, vC 0), (1, vI stp), (2, vI u), (3, vI v)] [] mu
  refine o_iload_n dX8_part_0 rfl rfl (by rfl) ?_
  refine o_bipush (v := (-9)) dX8_part_1 rfl (by decide) ?_
  refine o_bipush (v := 9) dX8_part_3 rfl (by decide) ?_
  refine o_callS cs_X8_isIn ct_X8_60 (c_isIn _ u ((-9)) 9) hq.2.2.2 (Nat.le_of_ble_eq_true rfl) dX8_part_5 rfl rfl rfl (Nat.le_of_ble_eq_true rfl) (fun r1 mu1 h1 => ?_)
  obtain ⟨em, h1⟩ := h1
  rw [em]
  refine o_if_eq (tgt := 26) dX8_part_8 (by decide) rfl (fun (c8 : r1 = 0) => ?_) (fun (c8 : ¬ r1 = 0) => ?_)
  · skip
    have b8 := (if10 h1).1 c8
    refine o_iconst (v := 0) dX8_part_26 rfl (by decide) ?_
    refine o_istore (L' := [(0, vC 0), (1, vI stp), (2, vI u), (3, vI v), (4, vI 0)]) dX8_part_27 rfl (by decide) (by rfl) (by rfl) ?_
    refine o_iload dX8_part_29 rfl (by rfl) ?_
    refine o_if_eq (tgt := 44) dX8_part_31 (by decide) rfl (fun (c31 : (0 : Int32) = 0) => ?_) (fun (c31 : ¬ (0 : Int32) = 0) => ?_)
    · skip
      refine o_iconst (v := (-1)) dX8_part_44 rfl (by decide) ?_
      exact o_iret hq dX8_part_45 (Or.inl ⟨by simp [b8], rfl, rfl⟩)
    · skip
      exact absurd (by decide) c31
  · skip
    have b8 := (if10 h1).2 c8
    refine o_iload_n dX8_part_11 rfl rfl (by rfl) ?_
    refine o_bipush (v := (-9)) dX8_part_12 rfl (by decide) ?_
    refine o_bipush (v := 9) dX8_part_14 rfl (by decide) ?_
    refine o_callS cs_X8_isIn ct_X8_60 (c_isIn _ v ((-9)) 9) hq.2.2.2 (Nat.le_of_ble_eq_true rfl) dX8_part_16 rfl rfl rfl (Nat.le_of_ble_eq_true rfl) (fun r2 mu2 h2 => ?_)
    obtain ⟨em, h2⟩ := h2
    rw [em]
    refine o_if_eq (tgt := 26) dX8_part_19 (by decide) rfl (fun (c19 : r2 = 0) => ?_) (fun (c19 : ¬ r2 = 0) => ?_)
    · skip
      have b19 := (if10 h2).1 c19
      refine o_iconst (v := 0) dX8_part_26 rfl (by decide) ?_
      refine o_istore (L' := [(0, vC 0), (1, vI stp), (2, vI u), (3, vI v), (4, vI 0)]) dX8_part_27 rfl (by decide) (by rfl) (by rfl) ?_
      refine o_iload dX8_part_29 rfl (by rfl) ?_
      refine o_if_eq (tgt := 44) dX8_part_31 (by decide) rfl (fun (c31 : (0 : Int32) = 0) => ?_) (fun (c31 : ¬ (0 : Int32) = 0) => ?_)
      · skip
        refine o_iconst (v := (-1)) dX8_part_44 rfl (by decide) ?_
        exact o_iret hq dX8_part_45 (Or.inl ⟨by simp [b8, b19], rfl, rfl⟩)
      · skip
        exact absurd (by decide) c31
    · skip
      have b19 := (if10 h2).2 c19
      refine o_iconst (v := 1) dX8_part_22 rfl (by decide) ?_
      refine o_goto (tgt := 27) dX8_part_23 (by decide) ?_
      refine o_istore (L' := [(0, vC 0), (1, vI stp), (2, vI u), (3, vI v), (4, vI 1)]) dX8_part_27 rfl (by decide) (by rfl) (by rfl) ?_
      refine o_iload dX8_part_29 rfl (by rfl) ?_
      refine o_if_eq (tgt := 44) dX8_part_31 (by decide) rfl (fun (c31 : (1 : Int32) = 0) => ?_) (fun (c31 : ¬ (1 : Int32) = 0) => ?_)
      · skip
        exact absurd c31 (by decide)
      · skip
        refine o_iload_n dX8_part_34 rfl rfl (by rfl) ?_
        refine o_iconst (v := 1) dX8_part_35 rfl (by decide) ?_
        refine o_bipush (v := 20) dX8_part_36 rfl (by decide) ?_
        refine o_callS cs_X8_isIn ct_X8_60 (c_isIn _ stp 1 20) hq.2.2.2 (Nat.le_of_ble_eq_true rfl) dX8_part_38 rfl rfl rfl (Nat.le_of_ble_eq_true rfl) (fun r3 mu3 h3 => ?_)
        obtain ⟨em, h3⟩ := h3
        rw [em]
        refine o_if_ne (tgt := 46) dX8_part_41 (by decide) rfl (fun (c41 : ¬ r3 = 0) => ?_) (fun (c41 : r3 = 0) => ?_)
        · skip
          have b41 := (if10 h3).2 c41
          refine o_aload_n dX8_part_46 rfl rfl (by rfl) ?_
          refine o_getC (q := 1) cl_X8_10 dX8_part_47 rfl (by decide) (by rfl) (by rfl) ?_
          refine o_getC (q := 9) cl_X8_97 dX8_part_50 rfl (by decide) (by rfl) (by rfl) ?_
          refine o_callV cs_X6_isFull cv_X8_78 (c_isFull 9 6 3 tab9 _) hq.2.2.2 (Nat.le_of_ble_eq_true rfl) dX8_part_53 rfl (by decide) (by rfl) (by rfl) (by rfl) rfl rfl (Nat.le_of_ble_eq_true rfl) (fun r4 mu4 h4 => ?_)
          obtain ⟨em, h4⟩ := h4
          rw [em]
          refine o_if_eq (tgt := 62) dX8_part_56 (by decide) rfl (fun (c56 : r4 = 0) => ?_) (fun (c56 : ¬ r4 = 0) => ?_)
          · skip
            have b56 := (if10 h4).1 c56
            obtain ⟨-, z, hz4, ez⟩ := hS.t9
            have hz : z < 6 := Nat.lt_of_le_of_ne hz4 (fun e => b56 (decide_eq_true (by rw [ez, e]; exact nI_nlt (Nat.le_refl _) (by decide))))
            refine o_aload_n dX8_part_62 rfl rfl (by rfl) ?_
            refine o_getC (q := 1) cl_X8_10 dX8_part_63 rfl (by decide) (by rfl) (by rfl) ?_
            refine o_getC (q := 9) cl_X8_97 dX8_part_66 rfl (by decide) (by rfl) (by rfl) ?_
            refine o_iload_n dX8_part_69 rfl rfl (by rfl) ?_
            refine o_iload_n dX8_part_70 rfl rfl (by rfl) ?_
            refine o_iload_n dX8_part_71 rfl rfl (by rfl) ?_
            refine o_callS cs_X8_addPart ct_X8_100 (c_X8_addPart 9 tab9 _ z hS.t9.1 ez hz stp u v) hq.2.2.2 (Nat.le_of_ble_eq_true rfl) dX8_part_72 rfl rfl rfl (Nat.le_of_ble_eq_true rfl) (fun rA mA hA => ?_)
            exact o_iret hq dX8_part_75 (Or.inr (Or.inr ⟨by simp [b8, b19, b41, b56], z, hz, ez, hA⟩))
          · skip
            have b56 := (if10 h4).2 c56
            refine o_bipush (v := (-3)) dX8_part_59 rfl (by decide) ?_
            exact o_iret hq dX8_part_61 (Or.inr (Or.inl ⟨by simp [b8, b19, b41, b56], b56, rfl, rfl⟩))
        · skip
          have b41 := (if10 h3).1 c41
          refine o_iconst (v := (-1)) dX8_part_44 rfl (by decide) ?_
          exact o_iret hq dX8_part_45 (Or.inl ⟨by simp [b8, b19, b41], rfl, rfl⟩)
set_option maxHeartbeats 4000000 in
set_option maxRecDepth 100000 in
theorem c_X8_trick (mu : Mu) (hS : SOK mu 1) (od sec worth may : Int32) : Con yX8_trick cX8_trick 7 (some .int) 2 [vC 0, vI od, vI sec, vI worth, vI may] mu (fun r mu2 => ((inB od 0 16 && inB worth 0 99 && inB sec 1 60 && inB may 1 9) = false ∧ r = -1 ∧ mu2 = mu) ∨ ((inB od 0 16 && inB worth 0 99 && inB sec 1 60 && inB may 1 9) = true ∧ fullB mu 17 8 = true ∧ r = -3 ∧ mu2 = mu) ∨ ((inB od 0 16 && inB worth 0 99 && inB sec 1 60 && inB may 1 9) = true ∧ ∃ z, z < 8 ∧ mu 17 2 = nI z ∧ r = nI z ∧ AR mu mu2 17 4 z (fun j => if j = 0 then od else if j = 1 then sec else if j = 2 then od * worth else may) 4)) := by
  refine con_of (own := RX8) (by decide) rfl (Nat.le_of_ble_eq_true rfl) (fun X g hq => ?_)
  show WA X g RX8 7 cX8_trick 0 [(0, vC 0), (1, vI od), (2, vI sec), (3, vI worth), (4, vI may)] [] mu
  refine o_iload_n dX8_trick_0 rfl rfl (by rfl) ?_
  refine o_iconst (v := 0) dX8_trick_1 rfl (by decide) ?_
  refine o_bipush (v := 16) dX8_trick_2 rfl (by decide) ?_
  refine o_callS cs_X8_isIn ct_X8_60 (c_isIn _ od 0 16) hq.2.2.2 (Nat.le_of_ble_eq_true rfl) dX8_trick_4 rfl rfl rfl (Nat.le_of_ble_eq_true rfl) (fun r1 mu1 h1 => ?_)
  obtain ⟨em, h1⟩ := h1
  rw [em]
  refine o_if_eq (tgt := 24) dX8_trick_7 (by decide) rfl (fun (c7 : r1 = 0) => ?_) (fun (c7 : ¬ r1 = 0) => ?_)
  · skip
    have b7 := (if10 h1).1 c7
    refine o_iconst (v := 0) dX8_trick_24 rfl (by decide) ?_
    refine o_istore (L' := [(0, vC 0), (1, vI od), (2, vI sec), (3, vI worth), (4, vI may), (5, vI 0)]) dX8_trick_25 rfl (by decide) (by rfl) (by rfl) ?_
    refine o_iload dX8_trick_27 rfl (by rfl) ?_
    refine o_if_eq (tgt := 53) dX8_trick_29 (by decide) rfl (fun (c29 : (0 : Int32) = 0) => ?_) (fun (c29 : ¬ (0 : Int32) = 0) => ?_)
    · skip
      refine o_iconst (v := (-1)) dX8_trick_53 rfl (by decide) ?_
      exact o_iret hq dX8_trick_54 (Or.inl ⟨by simp [b7], rfl, rfl⟩)
    · skip
      exact absurd (by decide) c29
  · skip
    have b7 := (if10 h1).2 c7
    refine o_iload_n dX8_trick_10 rfl rfl (by rfl) ?_
    refine o_iconst (v := 0) dX8_trick_11 rfl (by decide) ?_
    refine o_bipush (v := 99) dX8_trick_12 rfl (by decide) ?_
    refine o_callS cs_X8_isIn ct_X8_60 (c_isIn _ worth 0 99) hq.2.2.2 (Nat.le_of_ble_eq_true rfl) dX8_trick_14 rfl rfl rfl (Nat.le_of_ble_eq_true rfl) (fun r2 mu2 h2 => ?_)
    obtain ⟨em, h2⟩ := h2
    rw [em]
    refine o_if_eq (tgt := 24) dX8_trick_17 (by decide) rfl (fun (c17 : r2 = 0) => ?_) (fun (c17 : ¬ r2 = 0) => ?_)
    · skip
      have b17 := (if10 h2).1 c17
      refine o_iconst (v := 0) dX8_trick_24 rfl (by decide) ?_
      refine o_istore (L' := [(0, vC 0), (1, vI od), (2, vI sec), (3, vI worth), (4, vI may), (5, vI 0)]) dX8_trick_25 rfl (by decide) (by rfl) (by rfl) ?_
      refine o_iload dX8_trick_27 rfl (by rfl) ?_
      refine o_if_eq (tgt := 53) dX8_trick_29 (by decide) rfl (fun (c29 : (0 : Int32) = 0) => ?_) (fun (c29 : ¬ (0 : Int32) = 0) => ?_)
      · skip
        refine o_iconst (v := (-1)) dX8_trick_53 rfl (by decide) ?_
        exact o_iret hq dX8_trick_54 (Or.inl ⟨by simp [b7, b17], rfl, rfl⟩)
      · skip
        exact absurd (by decide) c29
    · skip
      have b17 := (if10 h2).2 c17
      refine o_iconst (v := 1) dX8_trick_20 rfl (by decide) ?_
      refine o_goto (tgt := 25) dX8_trick_21 (by decide) ?_
      refine o_istore (L' := [(0, vC 0), (1, vI od), (2, vI sec), (3, vI worth), (4, vI may), (5, vI 1)]) dX8_trick_25 rfl (by decide) (by rfl) (by rfl) ?_
      refine o_iload dX8_trick_27 rfl (by rfl) ?_
      refine o_if_eq (tgt := 53) dX8_trick_29 (by decide) rfl (fun (c29 : (1 : Int32) = 0) => ?_) (fun (c29 : ¬ (1 : Int32) = 0) => ?_)
      · skip
        exact absurd c29 (by decide)
      · skip
        refine o_iload_n dX8_trick_32 rfl rfl (by rfl) ?_
        refine o_iconst (v := 1) dX8_trick_33 rfl (by decide) ?_
        refine o_bipush (v := 60) dX8_trick_34 rfl (by decide) ?_
        refine o_callS cs_X8_isIn ct_X8_60 (c_isIn _ sec 1 60) hq.2.2.2 (Nat.le_of_ble_eq_true rfl) dX8_trick_36 rfl rfl rfl (Nat.le_of_ble_eq_true rfl) (fun r3 mu3 h3 => ?_)
        obtain ⟨em, h3⟩ := h3
        rw [em]
        refine o_if_eq (tgt := 53) dX8_trick_39 (by decide) rfl (fun (c39 : r3 = 0) => ?_) (fun (c39 : ¬ r3 = 0) => ?_)
        · skip
          have b39 := (if10 h3).1 c39
          refine o_iconst (v := (-1)) dX8_trick_53 rfl (by decide) ?_
          exact o_iret hq dX8_trick_54 (Or.inl ⟨by simp [b7, b17, b39], rfl, rfl⟩)
        · skip
          have b39 := (if10 h3).2 c39
          refine o_iload dX8_trick_42 rfl (by rfl) ?_
          refine o_iconst (v := 1) dX8_trick_44 rfl (by decide) ?_
          refine o_bipush (v := 9) dX8_trick_45 rfl (by decide) ?_
          refine o_callS cs_X8_isIn ct_X8_60 (c_isIn _ may 1 9) hq.2.2.2 (Nat.le_of_ble_eq_true rfl) dX8_trick_47 rfl rfl rfl (Nat.le_of_ble_eq_true rfl) (fun r4 mu4 h4 => ?_)
          obtain ⟨em, h4⟩ := h4
          rw [em]
          refine o_if_ne (tgt := 55) dX8_trick_50 (by decide) rfl (fun (c50 : ¬ r4 = 0) => ?_) (fun (c50 : r4 = 0) => ?_)
          · skip
            have b50 := (if10 h4).2 c50
            refine o_aload_n dX8_trick_55 rfl rfl (by rfl) ?_
            refine o_getC (q := 1) cl_X8_10 dX8_trick_56 rfl (by decide) (by rfl) (by rfl) ?_
            refine o_getC (q := 17) cl_X8_186 dX8_trick_59 rfl (by decide) (by rfl) (by rfl) ?_
            refine o_callV cs_X6_isFull cv_X8_78 (c_isFull 17 8 4 tab17 _) hq.2.2.2 (Nat.le_of_ble_eq_true rfl) dX8_trick_62 rfl (by decide) (by rfl) (by rfl) (by rfl) rfl rfl (Nat.le_of_ble_eq_true rfl) (fun r5 mu5 h5 => ?_)
            obtain ⟨em, h5⟩ := h5
            rw [em]
            refine o_if_eq (tgt := 71) dX8_trick_65 (by decide) rfl (fun (c65 : r5 = 0) => ?_) (fun (c65 : ¬ r5 = 0) => ?_)
            · skip
              have b65 := (if10 h5).1 c65
              obtain ⟨-, z, hz4, ez⟩ := hS.t17
              have hz : z < 8 := Nat.lt_of_le_of_ne hz4 (fun e => b65 (decide_eq_true (by rw [ez, e]; exact nI_nlt (Nat.le_refl _) (by decide))))
              refine o_aload_n dX8_trick_71 rfl rfl (by rfl) ?_
              refine o_getC (q := 1) cl_X8_10 dX8_trick_72 rfl (by decide) (by rfl) (by rfl) ?_
              refine o_getC (q := 17) cl_X8_186 dX8_trick_75 rfl (by decide) (by rfl) (by rfl) ?_
              refine o_callV cs_X6_grow cv_X8_234 (c_X6_grow 17 8 4 tab17 _) hq.2.2.2 (Nat.le_of_ble_eq_true rfl) dX8_trick_78 rfl (by decide) (by rfl) (by rfl) (by rfl) rfl rfl (Nat.le_of_ble_eq_true rfl) (fun rg0 m0 hg => ?_)
              obtain ⟨hA0, eg⟩ := AR.start (vals := (fun j => if j = 0 then od else if j = 1 then sec else if j = 2 then od * worth else may)) hS.t17.1 ez hz (by decide) hg
              subst eg
              refine o_istore (L' := [(0, vC 0), (1, vI od), (2, vI sec), (3, vI worth), (4, vI may), (5, vI 1), (6, vI (nI z))]) dX8_trick_81 rfl (by decide) (by rfl) (by rfl) ?_
              refine o_aload_n dX8_trick_83 rfl rfl (by rfl) ?_
              refine o_getC (q := 1) cl_X8_10 dX8_trick_84 rfl (by decide) (by rfl) (by rfl) ?_
              refine o_getC (q := 17) cl_X8_186 dX8_trick_87 rfl (by decide) (by rfl) (by rfl) ?_
              refine o_iload dX8_trick_90 rfl (by rfl) ?_
              refine o_iconst (v := 0) dX8_trick_92 rfl (by decide) ?_
              refine o_iload_n dX8_trick_93 rfl rfl (by rfl) ?_
              refine o_callVV cs_X6_put cv_X8_237 (c_X6_put 17 8 4 tab17 _ (hA0.tok hz) (nI z) 0 od) hq.2.2.2 (Nat.le_of_ble_eq_true rfl) dX8_trick_94 rfl (by decide) (by rfl) (by rfl) (by rfl) rfl rfl (Nat.le_of_ble_eq_true rfl) (fun m1 hp0 => ?_)
              have hA1 := hA0.put (by decide) (by omega) (by decide) hp0
              refine o_aload_n dX8_trick_97 rfl rfl (by rfl) ?_
              refine o_getC (q := 1) cl_X8_10 dX8_trick_98 rfl (by decide) (by rfl) (by rfl) ?_
              refine o_getC (q := 17) cl_X8_186 dX8_trick_101 rfl (by decide) (by rfl) (by rfl) ?_
              refine o_iload dX8_trick_104 rfl (by rfl) ?_
              refine o_iconst (v := 1) dX8_trick_106 rfl (by decide) ?_
              refine o_iload_n dX8_trick_107 rfl rfl (by rfl) ?_
              refine o_callVV cs_X6_put cv_X8_237 (c_X6_put 17 8 4 tab17 _ (hA1.tok hz) (nI z) 1 sec) hq.2.2.2 (Nat.le_of_ble_eq_true rfl) dX8_trick_108 rfl (by decide) (by rfl) (by rfl) (by rfl) rfl rfl (Nat.le_of_ble_eq_true rfl) (fun m2 hp1 => ?_)
              have hA2 := hA1.put (by decide) (by omega) (by decide) hp1
              refine o_aload_n dX8_trick_111 rfl rfl (by rfl) ?_
              refine o_getC (q := 1) cl_X8_10 dX8_trick_112 rfl (by decide) (by rfl) (by rfl) ?_
              refine o_getC (q := 17) cl_X8_186 dX8_trick_115 rfl (by decide) (by rfl) (by rfl) ?_
              refine o_iload dX8_trick_118 rfl (by rfl) ?_
              refine o_iconst (v := 2) dX8_trick_120 rfl (by decide) ?_
              refine o_iload_n dX8_trick_121 rfl rfl (by rfl) ?_
              refine o_iload_n dX8_trick_122 rfl rfl (by rfl) ?_
              refine o_imul dX8_trick_123 rfl ?_
              refine o_callVV cs_X6_put cv_X8_237 (c_X6_put 17 8 4 tab17 _ (hA2.tok hz) (nI z) 2 (od * worth)) hq.2.2.2 (Nat.le_of_ble_eq_true rfl) dX8_trick_124 rfl (by decide) (by rfl) (by rfl) (by rfl) rfl rfl (Nat.le_of_ble_eq_true rfl) (fun m3 hp2 => ?_)
              have hA3 := hA2.put (by decide) (by omega) (by decide) hp2
              refine o_aload_n dX8_trick_127 rfl rfl (by rfl) ?_
              refine o_getC (q := 1) cl_X8_10 dX8_trick_128 rfl (by decide) (by rfl) (by rfl) ?_
              refine o_getC (q := 17) cl_X8_186 dX8_trick_131 rfl (by decide) (by rfl) (by rfl) ?_
              refine o_iload dX8_trick_134 rfl (by rfl) ?_
              refine o_iconst (v := 3) dX8_trick_136 rfl (by decide) ?_
              refine o_iload dX8_trick_137 rfl (by rfl) ?_
              refine o_callVV cs_X6_put cv_X8_237 (c_X6_put 17 8 4 tab17 _ (hA3.tok hz) (nI z) 3 may) hq.2.2.2 (Nat.le_of_ble_eq_true rfl) dX8_trick_139 rfl (by decide) (by rfl) (by rfl) (by rfl) rfl rfl (Nat.le_of_ble_eq_true rfl) (fun m4 hp3 => ?_)
              have hA4 := hA3.put (by decide) (by omega) (by decide) hp3
              refine o_iload dX8_trick_142 rfl (by rfl) ?_
              exact o_iret hq dX8_trick_144 (Or.inr (Or.inr ⟨by simp [b7, b17, b39, b50, b65], z, hz, ez, rfl, hA4⟩))
            · skip
              have b65 := (if10 h5).2 c65
              refine o_bipush (v := (-3)) dX8_trick_68 rfl (by decide) ?_
              exact o_iret hq dX8_trick_70 (Or.inr (Or.inl ⟨by simp [b7, b17, b39, b50, b65], b65, rfl, rfl⟩))
          · skip
            have b50 := (if10 h4).1 c50
            refine o_iconst (v := (-1)) dX8_trick_53 rfl (by decide) ?_
            exact o_iret hq dX8_trick_54 (Or.inl ⟨by simp [b7, b17, b39, b50], rfl, rfl⟩)
set_option maxHeartbeats 4000000 in
set_option maxRecDepth 100000 in
theorem c_X8_told (mu : Mu) (hS : SOK mu 1) (a what : Int32) : Con yX8_told cX8_told 3 (some .int) 1 [vC 0, vI a, vI what] mu (fun r mu2 => mu2 = mu ∧ r = if (hasB mu 3 a && inB what 0 4) = true then tget mu 3 a what else -100001) := by
  refine con_of (own := RX8) (by decide) rfl (Nat.le_of_ble_eq_true rfl) (fun X g hq => ?_)
  show WA X g RX8 3 cX8_told 0 [(0, vC 0), (1, vI a), (2, vI what)] [] mu
  refine o_aload_n dX8_told_0 rfl rfl (by rfl) ?_
  refine o_getC (q := 1) cl_X8_10 dX8_told_1 rfl (by decide) (by rfl) (by rfl) ?_
  refine o_getC (q := 3) cl_X8_74 dX8_told_4 rfl (by decide) (by rfl) (by rfl) ?_
  refine o_iload_n dX8_told_7 rfl rfl (by rfl) ?_
  refine o_callV cs_X6_has cv_X8_88 (c_has 3 4 5 tab3 _ a) hq.2.2.2 (Nat.le_of_ble_eq_true rfl) dX8_told_8 rfl (by decide) (by rfl) (by rfl) (by rfl) rfl rfl (Nat.le_of_ble_eq_true rfl) (fun r1 mu1 h1 => ?_)
  obtain ⟨em, h1⟩ := h1
  rw [em]
  refine o_if_eq (tgt := 23) dX8_told_11 (by decide) rfl (fun (c11 : r1 = 0) => ?_) (fun (c11 : ¬ r1 = 0) => ?_)
  · skip
    have b11 := (if10 h1).1 c11
    refine o_ldc dX8_told_23 rfl kc_X8_92 ?_
    exact o_iret hq dX8_told_25 ⟨rfl, by simp [b11]⟩
  · skip
    have b11 := (if10 h1).2 c11
    refine o_iload_n dX8_told_14 rfl rfl (by rfl) ?_
    refine o_iconst (v := 0) dX8_told_15 rfl (by decide) ?_
    refine o_iconst (v := 4) dX8_told_16 rfl (by decide) ?_
    refine o_callS cs_X8_isIn ct_X8_60 (c_isIn _ what 0 4) hq.2.2.2 (Nat.le_of_ble_eq_true rfl) dX8_told_17 rfl rfl rfl (Nat.le_of_ble_eq_true rfl) (fun r2 mu2 h2 => ?_)
    obtain ⟨em, h2⟩ := h2
    rw [em]
    refine o_if_ne (tgt := 26) dX8_told_20 (by decide) rfl (fun (c20 : ¬ r2 = 0) => ?_) (fun (c20 : r2 = 0) => ?_)
    · skip
      have b20 := (if10 h2).2 c20
      refine o_aload_n dX8_told_26 rfl rfl (by rfl) ?_
      refine o_getC (q := 1) cl_X8_10 dX8_told_27 rfl (by decide) (by rfl) (by rfl) ?_
      refine o_getC (q := 3) cl_X8_74 dX8_told_30 rfl (by decide) (by rfl) (by rfl) ?_
      refine o_iload_n dX8_told_33 rfl rfl (by rfl) ?_
      refine o_iload_n dX8_told_34 rfl rfl (by rfl) ?_
      refine o_callV cs_X6_get cv_X8_93 (c_X6_get 3 4 5 tab3 _ (TOK.cg (by rfl) hS.t3) a what) hq.2.2.2 (Nat.le_of_ble_eq_true rfl) dX8_told_35 rfl (by decide) (by rfl) (by rfl) (by rfl) rfl rfl (Nat.le_of_ble_eq_true rfl) (fun r3 mu3 h3 => ?_)
      obtain ⟨em, h3⟩ := h3
      rw [em]
      subst h3
      exact o_iret hq dX8_told_38 ⟨rfl, by simp [b11, b20]⟩
    · skip
      have b20 := (if10 h2).1 c20
      refine o_ldc dX8_told_23 rfl kc_X8_92 ?_
      exact o_iret hq dX8_told_25 ⟨rfl, by simp [b11, b20]⟩
set_option maxHeartbeats 4000000 in
set_option maxRecDepth 100000 in
theorem c_X8_pull (mu : Mu) (hS : SOK mu 1) (a what : Int32) : Con yX8_pull cX8_pull 3 (some .int) 1 [vC 0, vI a, vI what] mu (fun r mu2 => mu2 = mu ∧ r = if (hasB mu 9 a && inB what 0 2) = true then tget mu 9 a what else -100001) := by
  refine con_of (own := RX8) (by decide) rfl (Nat.le_of_ble_eq_true rfl) (fun X g hq => ?_)
  show WA X g RX8 3 cX8_pull 0 [(0, vC 0), (1, vI a), (2, vI what)] [] mu
  refine o_aload_n dX8_pull_0 rfl rfl (by rfl) ?_
  refine o_getC (q := 1) cl_X8_10 dX8_pull_1 rfl (by decide) (by rfl) (by rfl) ?_
  refine o_getC (q := 9) cl_X8_97 dX8_pull_4 rfl (by decide) (by rfl) (by rfl) ?_
  refine o_iload_n dX8_pull_7 rfl rfl (by rfl) ?_
  refine o_callV cs_X6_has cv_X8_88 (c_has 9 6 3 tab9 _ a) hq.2.2.2 (Nat.le_of_ble_eq_true rfl) dX8_pull_8 rfl (by decide) (by rfl) (by rfl) (by rfl) rfl rfl (Nat.le_of_ble_eq_true rfl) (fun r1 mu1 h1 => ?_)
  obtain ⟨em, h1⟩ := h1
  rw [em]
  refine o_if_eq (tgt := 23) dX8_pull_11 (by decide) rfl (fun (c11 : r1 = 0) => ?_) (fun (c11 : ¬ r1 = 0) => ?_)
  · skip
    have b11 := (if10 h1).1 c11
    refine o_ldc dX8_pull_23 rfl kc_X8_92 ?_
    exact o_iret hq dX8_pull_25 ⟨rfl, by simp [b11]⟩
  · skip
    have b11 := (if10 h1).2 c11
    refine o_iload_n dX8_pull_14 rfl rfl (by rfl) ?_
    refine o_iconst (v := 0) dX8_pull_15 rfl (by decide) ?_
    refine o_iconst (v := 2) dX8_pull_16 rfl (by decide) ?_
    refine o_callS cs_X8_isIn ct_X8_60 (c_isIn _ what 0 2) hq.2.2.2 (Nat.le_of_ble_eq_true rfl) dX8_pull_17 rfl rfl rfl (Nat.le_of_ble_eq_true rfl) (fun r2 mu2 h2 => ?_)
    obtain ⟨em, h2⟩ := h2
    rw [em]
    refine o_if_ne (tgt := 26) dX8_pull_20 (by decide) rfl (fun (c20 : ¬ r2 = 0) => ?_) (fun (c20 : r2 = 0) => ?_)
    · skip
      have b20 := (if10 h2).2 c20
      refine o_aload_n dX8_pull_26 rfl rfl (by rfl) ?_
      refine o_getC (q := 1) cl_X8_10 dX8_pull_27 rfl (by decide) (by rfl) (by rfl) ?_
      refine o_getC (q := 9) cl_X8_97 dX8_pull_30 rfl (by decide) (by rfl) (by rfl) ?_
      refine o_iload_n dX8_pull_33 rfl rfl (by rfl) ?_
      refine o_iload_n dX8_pull_34 rfl rfl (by rfl) ?_
      refine o_callV cs_X6_get cv_X8_93 (c_X6_get 9 6 3 tab9 _ (TOK.cg (by rfl) hS.t9) a what) hq.2.2.2 (Nat.le_of_ble_eq_true rfl) dX8_pull_35 rfl (by decide) (by rfl) (by rfl) (by rfl) rfl rfl (Nat.le_of_ble_eq_true rfl) (fun r3 mu3 h3 => ?_)
      obtain ⟨em, h3⟩ := h3
      rw [em]
      subst h3
      exact o_iret hq dX8_pull_38 ⟨rfl, by simp [b11, b20]⟩
    · skip
      have b20 := (if10 h2).1 c20
      refine o_ldc dX8_pull_23 rfl kc_X8_92 ?_
      exact o_iret hq dX8_pull_25 ⟨rfl, by simp [b11, b20]⟩
set_option maxHeartbeats 4000000 in
set_option maxRecDepth 100000 in
theorem c_X8_still (mu : Mu) : Con yX8_still cX8_still 1 (some .int) 1 [vC 0] mu (fun r mu2 => mu2 = upF mu 9 2 0 ∧ r = mu 9 2) := by
  refine con_of (own := RX8) (by decide) rfl (Nat.le_of_ble_eq_true rfl) (fun X g hq => ?_)
  show WA X g RX8 1 cX8_still 0 [(0, vC 0)] [] mu
  refine o_aload_n dX8_still_0 rfl rfl (by rfl) ?_
  refine o_getC (q := 1) cl_X8_10 dX8_still_1 rfl (by decide) (by rfl) (by rfl) ?_
  refine o_getC (q := 9) cl_X8_97 dX8_still_4 rfl (by decide) (by rfl) (by rfl) ?_
  refine o_callV cs_X6_empty cv_X8_104 (c_X6_empty 9 6 3 tab9 _) hq.2.2.2 (Nat.le_of_ble_eq_true rfl) dX8_still_7 rfl (by decide) (by rfl) (by rfl) (by rfl) rfl rfl (Nat.le_of_ble_eq_true rfl) (fun r m h => ?_)
  exact o_iret hq dX8_still_10 h
set_option maxHeartbeats 4000000 in
set_option maxRecDepth 100000 in
theorem c_X8_clear (mu : Mu) : Con yX8_clear cX8_clear 1 (some .int) 1 [vC 0] mu (fun r mu2 => mu2 = upF mu 17 2 0 ∧ r = mu 17 2) := by
  refine con_of (own := RX8) (by decide) rfl (Nat.le_of_ble_eq_true rfl) (fun X g hq => ?_)
  show WA X g RX8 1 cX8_clear 0 [(0, vC 0)] [] mu
  refine o_aload_n dX8_clear_0 rfl rfl (by rfl) ?_
  refine o_getC (q := 1) cl_X8_10 dX8_clear_1 rfl (by decide) (by rfl) (by rfl) ?_
  refine o_getC (q := 17) cl_X8_186 dX8_clear_4 rfl (by decide) (by rfl) (by rfl) ?_
  refine o_callV cs_X6_empty cv_X8_104 (c_X6_empty 17 8 4 tab17 _) hq.2.2.2 (Nat.le_of_ble_eq_true rfl) dX8_clear_7 rfl (by decide) (by rfl) (by rfl) (by rfl) rfl rfl (Nat.le_of_ble_eq_true rfl) (fun r m h => ?_)
  exact o_iret hq dX8_clear_10 h
theorem traj_taut {E : Vc} {C : Nat → Vc} {nc : Nat} {U V : Vc} : ∀ (n : Nat) (s : Vc), Traj E C nc U V n s → s 8 = 0 ∨ s 8 = 1
  | 0, s, h => Or.inr (h 8 (by decide))
  | n + 1, t, h => by
    obtain ⟨s, hs, h⟩ := h
    rcases h with ⟨a, h⟩ | ⟨a, h⟩
    · obtain ⟨f, g, k, -, -, hH, hK, -, -, -, -, -, -, t8, -⟩ := h
      have e : k 12 = g 12 := by
        rcases hK with ⟨-, rfl⟩ | ⟨-, i, -, -, hL⟩
        · rfl
        · exact hL.1 12 (by decide) (by decide) (by decide)
      rw [t8, e]
      rcases hH.2 with ⟨-, -, -, -, -, -, -, h12, -⟩ | ⟨-, -, -, -, -, -, -, h12, -⟩
      · exact Or.inr h12
      · exact Or.inl h12
    · rw [h 8 (by decide)]
      exact traj_taut n s hs
/-- the try as told, number j behind n steps -/
noncomputable def tvT (mu : Mu) (n j : Nat) : Int32 := tv mu (mu 2 0) (tget mu 9 0 1) (tget mu 9 0 2) 1 (-1) 0 n j
noncomputable def endV (M : Nat → Int32) (what : Int32) : Int32 := if what = 0 then (if M 9 = -1 then -4 else M 9) else if what = 1 then (if M 9 = -1 then -4 else M 12 - 1) else if what = 2 then M 10 else M 11
set_option maxHeartbeats 4000000 in
set_option maxRecDepth 100000 in
theorem c_X8_at (mu : Mu) (hS : SOK mu 1) (stp what : Int32) : Con yX8_at cX8_at 3 (some .int) 5 [vC 0, vI stp, vI what] mu (fun r mu2 => ((inB stp 0 99 && inB what 0 8) = true ∧ fr2 mu mu2 ∧ ∃ k, stp = nI k ∧ k ≤ 99 ∧ r = tvT mu (k + 1) what.toNatClampNeg) ∨ ((inB stp 0 99 && inB what 0 8) = false ∧ r = -100001 ∧ mu2 = mu)) := by
  refine con_of (own := RX8) (by decide) rfl (Nat.le_of_ble_eq_true rfl) (fun X g hq => ?_)
  show WA X g RX8 3 cX8_at 0 [(0, vC 0), (1, vI stp), (2, vI what)] [] mu
  obtain ⟨nc, hz, ez⟩ := hS.nc
  refine o_iload_n dX8_at_0 rfl rfl (by rfl) ?_
  refine o_iconst (v := 0) dX8_at_1 rfl (by decide) ?_
  refine o_bipush (v := 99) dX8_at_2 rfl (by decide) ?_
  refine o_callS cs_X8_isIn ct_X8_60 (c_isIn _ stp 0 99) hq.2.2.2 (Nat.le_of_ble_eq_true rfl) dX8_at_4 rfl rfl rfl (Nat.le_of_ble_eq_true rfl) (fun r1 mu1 h1 => ?_)
  obtain ⟨em, h1⟩ := h1
  rw [em]
  refine o_if_eq (tgt := 20) dX8_at_7 (by decide) rfl (fun (c7 : r1 = 0) => ?_) (fun (c7 : ¬ r1 = 0) => ?_)
  · skip
    have b7 := (if10 h1).1 c7
    refine o_ldc dX8_at_20 rfl kc_X8_92 ?_
    exact o_iret hq dX8_at_22 (Or.inr ⟨by simp [b7], rfl, rfl⟩)
  · skip
    have b7 := (if10 h1).2 c7
    refine o_iload_n dX8_at_10 rfl rfl (by rfl) ?_
    refine o_iconst (v := 0) dX8_at_11 rfl (by decide) ?_
    refine o_bipush (v := 8) dX8_at_12 rfl (by decide) ?_
    refine o_callS cs_X8_isIn ct_X8_60 (c_isIn _ what 0 8) hq.2.2.2 (Nat.le_of_ble_eq_true rfl) dX8_at_14 rfl rfl rfl (Nat.le_of_ble_eq_true rfl) (fun r2 mu2 h2 => ?_)
    obtain ⟨em, h2⟩ := h2
    rw [em]
    refine o_if_ne (tgt := 23) dX8_at_17 (by decide) rfl (fun (c17 : ¬ r2 = 0) => ?_) (fun (c17 : r2 = 0) => ?_)
    · skip
      have b17 := (if10 h2).2 c17
      obtain ⟨sk, esk, -, hsk⟩ := inB_nI (l := 0) (m := 99) (by decide) (by decide) b7
      subst esk
      refine o_aload_n dX8_at_23 rfl rfl (by rfl) ?_
      refine o_getC (q := 53) cl_X8_28 dX8_at_24 rfl (by decide) (by rfl) (by rfl) ?_
      refine o_callVV cs_X7_beginAsTold cv_X8_135 (c_X7_beginAsTold _ hS) hq.2.2.2 (Nat.le_of_ble_eq_true rfl) dX8_at_27 rfl (by decide) (by rfl) (by rfl) (by rfl) rfl rfl (Nat.le_of_ble_eq_true rfl) (fun m1 hB => ?_)
      have hOK := hB.ok hS hS.1.1 (toldU hS).1 (toldU hS).2 ez hz (Or.inl rfl)
      refine o_aload_n dX8_at_30 rfl rfl (by rfl) ?_
      refine o_getC (q := 53) cl_X8_28 dX8_at_31 rfl (by decide) (by rfl) (by rfl) ?_
      refine o_iload_n dX8_at_34 rfl rfl (by rfl) ?_
      refine o_iconst (v := 1) dX8_at_35 rfl (by decide) ?_
      refine o_iadd dX8_at_36 rfl ?_
      rw [nI_1]
      refine o_callVV cs_X7_goOn cv_X8_138 (c_X7_goOn _ _ _ nc hOK.1 _ 0 (sk + 1) (by omega) (by omega) hOK.2) hq.2.2.2 (Nat.le_of_ble_eq_true rfl) dX8_at_37 rfl (by decide) (by rfl) (by rfl) (by rfl) rfl rfl (Nat.le_of_ble_eq_true rfl) (fun mG hG => ?_)
      have hF := hG.tv hB hS ez hz (Or.inl rfl)
      refine o_iload_n dX8_at_40 rfl rfl (by rfl) ?_
      rcases sw8 what with ew | ew | ew | ew | ew | ew | ew | ew | hw
      · skip
        subst ew
        refine o_tableIn (off := 47) (tgt := 88) dX8_at_41 (by decide) (by decide) (by rfl) (by decide) ?_
        refine o_aload_n dX8_at_88 rfl rfl (by rfl) ?_
        refine o_getC (q := 53) cl_X8_28 dX8_at_89 rfl (by decide) (by rfl) (by rfl) ?_
        refine o_getI cl_X8_141 dX8_at_92 rfl (by decide) (by rfl) (by rfl) ?_
        exact o_iret hq dX8_at_95 (Or.inl ⟨by simp [b7, b17], hF.1, sk, rfl, hsk, hF.2 0 (by decide)⟩)
      · skip
        subst ew
        refine o_tableIn (off := 55) (tgt := 96) dX8_at_41 (by decide) (by decide) (by rfl) (by decide) ?_
        refine o_aload_n dX8_at_96 rfl rfl (by rfl) ?_
        refine o_getC (q := 53) cl_X8_28 dX8_at_97 rfl (by decide) (by rfl) (by rfl) ?_
        refine o_getI cl_X8_144 dX8_at_100 rfl (by decide) (by rfl) (by rfl) ?_
        exact o_iret hq dX8_at_103 (Or.inl ⟨by simp [b7, b17], hF.1, sk, rfl, hsk, hF.2 1 (by decide)⟩)
      · skip
        subst ew
        refine o_tableIn (off := 63) (tgt := 104) dX8_at_41 (by decide) (by decide) (by rfl) (by decide) ?_
        refine o_aload_n dX8_at_104 rfl rfl (by rfl) ?_
        refine o_getC (q := 53) cl_X8_28 dX8_at_105 rfl (by decide) (by rfl) (by rfl) ?_
        refine o_getI cl_X8_147 dX8_at_108 rfl (by decide) (by rfl) (by rfl) ?_
        exact o_iret hq dX8_at_111 (Or.inl ⟨by simp [b7, b17], hF.1, sk, rfl, hsk, hF.2 2 (by decide)⟩)
      · skip
        subst ew
        refine o_tableIn (off := 71) (tgt := 112) dX8_at_41 (by decide) (by decide) (by rfl) (by decide) ?_
        refine o_aload_n dX8_at_112 rfl rfl (by rfl) ?_
        refine o_getC (q := 53) cl_X8_28 dX8_at_113 rfl (by decide) (by rfl) (by rfl) ?_
        refine o_getI cl_X8_150 dX8_at_116 rfl (by decide) (by rfl) (by rfl) ?_
        exact o_iret hq dX8_at_119 (Or.inl ⟨by simp [b7, b17], hF.1, sk, rfl, hsk, hF.2 3 (by decide)⟩)
      · skip
        subst ew
        refine o_tableIn (off := 79) (tgt := 120) dX8_at_41 (by decide) (by decide) (by rfl) (by decide) ?_
        refine o_aload_n dX8_at_120 rfl rfl (by rfl) ?_
        refine o_getC (q := 53) cl_X8_28 dX8_at_121 rfl (by decide) (by rfl) (by rfl) ?_
        refine o_getI cl_X8_153 dX8_at_124 rfl (by decide) (by rfl) (by rfl) ?_
        exact o_iret hq dX8_at_127 (Or.inl ⟨by simp [b7, b17], hF.1, sk, rfl, hsk, hF.2 4 (by decide)⟩)
      · skip
        subst ew
        refine o_tableIn (off := 87) (tgt := 128) dX8_at_41 (by decide) (by decide) (by rfl) (by decide) ?_
        refine o_aload_n dX8_at_128 rfl rfl (by rfl) ?_
        refine o_getC (q := 53) cl_X8_28 dX8_at_129 rfl (by decide) (by rfl) (by rfl) ?_
        refine o_getI cl_X8_156 dX8_at_132 rfl (by decide) (by rfl) (by rfl) ?_
        exact o_iret hq dX8_at_135 (Or.inl ⟨by simp [b7, b17], hF.1, sk, rfl, hsk, hF.2 5 (by decide)⟩)
      · skip
        subst ew
        refine o_tableIn (off := 95) (tgt := 136) dX8_at_41 (by decide) (by decide) (by rfl) (by decide) ?_
        refine o_aload_n dX8_at_136 rfl rfl (by rfl) ?_
        refine o_getC (q := 53) cl_X8_28 dX8_at_137 rfl (by decide) (by rfl) (by rfl) ?_
        refine o_getC (q := 54) cl_X8_159 dX8_at_140 rfl (by decide) (by rfl) (by rfl) ?_
        refine o_getI cl_X8_163 dX8_at_143 rfl (by decide) (by rfl) (by rfl) ?_
        exact o_iret hq dX8_at_146 (Or.inl ⟨by simp [b7, b17], hF.1, sk, rfl, hsk, hF.2 6 (by decide)⟩)
      · skip
        subst ew
        refine o_tableIn (off := 106) (tgt := 147) dX8_at_41 (by decide) (by decide) (by rfl) (by decide) ?_
        refine o_aload_n dX8_at_147 rfl rfl (by rfl) ?_
        refine o_getC (q := 53) cl_X8_28 dX8_at_148 rfl (by decide) (by rfl) (by rfl) ?_
        refine o_getC (q := 54) cl_X8_159 dX8_at_151 rfl (by decide) (by rfl) (by rfl) ?_
        refine o_getI cl_X8_166 dX8_at_154 rfl (by decide) (by rfl) (by rfl) ?_
        exact o_iret hq dX8_at_157 (Or.inl ⟨by simp [b7, b17], hF.1, sk, rfl, hsk, hF.2 7 (by decide)⟩)
      · skip
        refine o_tableOut (tgt := 158) dX8_at_41 hw (by decide) ?_
        have e8 : what = 8 := by have h := inB_t b17; rw [i_lt, i_lt] at h; have e1 : (8 : Int32).toInt = 8 := rfl; have e0 : (0 : Int32).toInt = 0 := rfl; rw [i_eq]; omega
        subst e8
        have h8 : mG 53 12 = 0 ∨ mG 53 12 = 1 := traj_taut _ _ hG.2.2.1
        refine o_aload_n dX8_at_158 rfl rfl (by rfl) ?_
        refine o_getC (q := 53) cl_X8_28 dX8_at_159 rfl (by decide) (by rfl) (by rfl) ?_
        refine o_getI cl_X8_167 dX8_at_162 rfl (by decide) (by rfl) (by rfl) ?_
        refine o_if_eq (tgt := 172) dX8_at_165 (by decide) rfl (fun (c165 : (mG 53 12) = 0) => ?_) (fun (c165 : ¬ (mG 53 12) = 0) => ?_)
        · skip
          refine o_iconst (v := 0) dX8_at_172 rfl (by decide) ?_
          exact o_iret hq dX8_at_173 (Or.inl ⟨by simp [b7, b17], hF.1, sk, rfl, hsk, by rw [← c165]; exact hF.2 8 (by decide)⟩)
        · skip
          refine o_iconst (v := 1) dX8_at_168 rfl (by decide) ?_
          refine o_goto (tgt := 173) dX8_at_169 (by decide) ?_
          exact o_iret hq dX8_at_173 (Or.inl ⟨by simp [b7, b17], hF.1, sk, rfl, hsk, by rw [← h8.resolve_left c165]; exact hF.2 8 (by decide)⟩)
    · skip
      have b17 := (if10 h2).1 c17
      refine o_ldc dX8_at_20 rfl kc_X8_92 ?_
      exact o_iret hq dX8_at_22 (Or.inr ⟨by simp [b7, b17], rfl, rfl⟩)
set_option maxHeartbeats 4000000 in
set_option maxRecDepth 100000 in
theorem c_X8_end (mu : Mu) (hS : SOK mu 1) (what : Int32) : Con yX8_end cX8_end 3 (some .int) 5 [vC 0, vI what] mu (fun r mu2 => (inB what 0 3 = true ∧ fr2 mu mu2 ∧ r = endV (tvT mu 100) what) ∨ (inB what 0 3 = false ∧ r = -1 ∧ mu2 = mu)) := by
  refine con_of (own := RX8) (by decide) rfl (Nat.le_of_ble_eq_true rfl) (fun X g hq => ?_)
  show WA X g RX8 3 cX8_end 0 [(0, vC 0), (1, vI what)] [] mu
  obtain ⟨nc, hz, ez⟩ := hS.nc
  refine o_iload_n dX8_end_0 rfl rfl (by rfl) ?_
  refine o_iconst (v := 0) dX8_end_1 rfl (by decide) ?_
  refine o_iconst (v := 3) dX8_end_2 rfl (by decide) ?_
  refine o_callS cs_X8_isIn ct_X8_60 (c_isIn _ what 0 3) hq.2.2.2 (Nat.le_of_ble_eq_true rfl) dX8_end_3 rfl rfl rfl (Nat.le_of_ble_eq_true rfl) (fun r1 mu1 h1 => ?_)
  obtain ⟨em, h1⟩ := h1
  rw [em]
  refine o_if_ne (tgt := 11) dX8_end_6 (by decide) rfl (fun (c6 : ¬ r1 = 0) => ?_) (fun (c6 : r1 = 0) => ?_)
  · skip
    have b6 := (if10 h1).2 c6
    refine o_aload_n dX8_end_11 rfl rfl (by rfl) ?_
    refine o_getC (q := 53) cl_X8_28 dX8_end_12 rfl (by decide) (by rfl) (by rfl) ?_
    refine o_callVV cs_X7_beginAsTold cv_X8_135 (c_X7_beginAsTold _ hS) hq.2.2.2 (Nat.le_of_ble_eq_true rfl) dX8_end_15 rfl (by decide) (by rfl) (by rfl) (by rfl) rfl rfl (Nat.le_of_ble_eq_true rfl) (fun m1 hB => ?_)
    have hOK := hB.ok hS hS.1.1 (toldU hS).1 (toldU hS).2 ez hz (Or.inl rfl)
    refine o_aload_n dX8_end_18 rfl rfl (by rfl) ?_
    refine o_getC (q := 53) cl_X8_28 dX8_end_19 rfl (by decide) (by rfl) (by rfl) ?_
    refine o_bipush (v := 100) dX8_end_22 rfl (by decide) ?_
    refine o_callVV cs_X7_goOn cv_X8_138 (c_X7_goOn _ _ _ nc hOK.1 _ 0 100 (by omega) (by omega) hOK.2) hq.2.2.2 (Nat.le_of_ble_eq_true rfl) dX8_end_24 rfl (by decide) (by rfl) (by rfl) (by rfl) rfl rfl (Nat.le_of_ble_eq_true rfl) (fun mG hG => ?_)
    have hF := hG.tv hB hS ez hz (Or.inl rfl)
    refine o_aload_n dX8_end_27 rfl rfl (by rfl) ?_
    refine o_getC (q := 53) cl_X8_28 dX8_end_28 rfl (by decide) (by rfl) (by rfl) ?_
    refine o_getI cl_X8_170 dX8_end_31 rfl (by decide) (by rfl) (by rfl) ?_
    refine o_iconst (v := (-1)) dX8_end_34 rfl (by decide) ?_
    refine o_icmp_eq (tgt := 42) dX8_end_35 (by decide) rfl (fun (c35 : (mG 53 14) = ((-1))) => ?_) (fun (c35 : ¬ (mG 53 14) = ((-1))) => ?_)
    · skip
      refine o_iconst (v := 0) dX8_end_42 rfl (by decide) ?_
      refine o_istore_n (L' := [(0, vC 0), (1, vI what), (2, vI 0)]) dX8_end_43 rfl rfl (by decide) (by rfl) (by rfl) ?_
      refine o_iload_n dX8_end_44 rfl rfl (by rfl) ?_
      rcases sw3 what with ew | ew | ew | hw
      · skip
        subst ew
        refine o_tableIn (off := 27) (tgt := 72) dX8_end_45 (by decide) (by decide) (by rfl) (by decide) ?_
        refine o_iload_n dX8_end_72 rfl rfl (by rfl) ?_
        refine o_if_eq (tgt := 86) dX8_end_73 (by decide) rfl (fun (c73 : (0 : Int32) = 0) => ?_) (fun (c73 : ¬ (0 : Int32) = 0) => ?_)
        · skip
          refine o_bipush (v := (-4)) dX8_end_86 rfl (by decide) ?_
          exact o_iret hq dX8_end_88 (Or.inl ⟨by simp [b6], hF.1, by show _ = if tvT mu 100 9 = -1 then -4 else tvT mu 100 9; rw [← show mG 53 14 = tvT mu 100 9 from hF.2 9 (by decide)]; rw [if_pos c35]⟩)
        · skip
          exact absurd (by decide) c73
      · skip
        subst ew
        refine o_tableIn (off := 44) (tgt := 89) dX8_end_45 (by decide) (by decide) (by rfl) (by decide) ?_
        refine o_iload_n dX8_end_89 rfl rfl (by rfl) ?_
        refine o_if_eq (tgt := 105) dX8_end_90 (by decide) rfl (fun (c90 : (0 : Int32) = 0) => ?_) (fun (c90 : ¬ (0 : Int32) = 0) => ?_)
        · skip
          refine o_bipush (v := (-4)) dX8_end_105 rfl (by decide) ?_
          exact o_iret hq dX8_end_107 (Or.inl ⟨by simp [b6], hF.1, by show _ = if tvT mu 100 9 = -1 then -4 else tvT mu 100 12 - 1; rw [← show mG 53 14 = tvT mu 100 9 from hF.2 9 (by decide), ← show mG 53 13 = tvT mu 100 12 from hF.2 12 (by decide)]; rw [if_pos c35]⟩)
        · skip
          exact absurd (by decide) c90
      · skip
        subst ew
        refine o_tableIn (off := 63) (tgt := 108) dX8_end_45 (by decide) (by decide) (by rfl) (by decide) ?_
        refine o_aload_n dX8_end_108 rfl rfl (by rfl) ?_
        refine o_getC (q := 53) cl_X8_28 dX8_end_109 rfl (by decide) (by rfl) (by rfl) ?_
        refine o_getI cl_X8_176 dX8_end_112 rfl (by decide) (by rfl) (by rfl) ?_
        exact o_iret hq dX8_end_115 (Or.inl ⟨by simp [b6], hF.1, by exact hF.2 10 (by decide)⟩)
      · skip
        refine o_tableOut (tgt := 116) dX8_end_45 hw (by decide) ?_
        have e8 : what = 3 := by have h := inB_t b6; rw [i_lt, i_lt] at h; have e1 : (3 : Int32).toInt = 3 := rfl; have e0 : (0 : Int32).toInt = 0 := rfl; rw [i_eq]; omega
        subst e8
        refine o_aload_n dX8_end_116 rfl rfl (by rfl) ?_
        refine o_getC (q := 53) cl_X8_28 dX8_end_117 rfl (by decide) (by rfl) (by rfl) ?_
        refine o_getI cl_X8_179 dX8_end_120 rfl (by decide) (by rfl) (by rfl) ?_
        exact o_iret hq dX8_end_123 (Or.inl ⟨by simp [b6], hF.1, by exact hF.2 11 (by decide)⟩)
    · skip
      refine o_iconst (v := 1) dX8_end_38 rfl (by decide) ?_
      refine o_goto (tgt := 43) dX8_end_39 (by decide) ?_
      refine o_istore_n (L' := [(0, vC 0), (1, vI what), (2, vI 1)]) dX8_end_43 rfl rfl (by decide) (by rfl) (by rfl) ?_
      refine o_iload_n dX8_end_44 rfl rfl (by rfl) ?_
      rcases sw3 what with ew | ew | ew | hw
      · skip
        subst ew
        refine o_tableIn (off := 27) (tgt := 72) dX8_end_45 (by decide) (by decide) (by rfl) (by decide) ?_
        refine o_iload_n dX8_end_72 rfl rfl (by rfl) ?_
        refine o_if_eq (tgt := 86) dX8_end_73 (by decide) rfl (fun (c73 : (1 : Int32) = 0) => ?_) (fun (c73 : ¬ (1 : Int32) = 0) => ?_)
        · skip
          exact absurd c73 (by decide)
        · skip
          refine o_aload_n dX8_end_76 rfl rfl (by rfl) ?_
          refine o_getC (q := 53) cl_X8_28 dX8_end_77 rfl (by decide) (by rfl) (by rfl) ?_
          refine o_getI cl_X8_170 dX8_end_80 rfl (by decide) (by rfl) (by rfl) ?_
          refine o_goto (tgt := 88) dX8_end_83 (by decide) ?_
          exact o_iret hq dX8_end_88 (Or.inl ⟨by simp [b6], hF.1, by show _ = if tvT mu 100 9 = -1 then -4 else tvT mu 100 9; rw [← show mG 53 14 = tvT mu 100 9 from hF.2 9 (by decide)]; rw [if_neg c35]⟩)
      · skip
        subst ew
        refine o_tableIn (off := 44) (tgt := 89) dX8_end_45 (by decide) (by decide) (by rfl) (by decide) ?_
        refine o_iload_n dX8_end_89 rfl rfl (by rfl) ?_
        refine o_if_eq (tgt := 105) dX8_end_90 (by decide) rfl (fun (c90 : (1 : Int32) = 0) => ?_) (fun (c90 : ¬ (1 : Int32) = 0) => ?_)
        · skip
          exact absurd c90 (by decide)
        · skip
          refine o_aload_n dX8_end_93 rfl rfl (by rfl) ?_
          refine o_getC (q := 53) cl_X8_28 dX8_end_94 rfl (by decide) (by rfl) (by rfl) ?_
          refine o_getI cl_X8_173 dX8_end_97 rfl (by decide) (by rfl) (by rfl) ?_
          refine o_iconst (v := 1) dX8_end_100 rfl (by decide) ?_
          refine o_isub dX8_end_101 rfl ?_
          refine o_goto (tgt := 107) dX8_end_102 (by decide) ?_
          exact o_iret hq dX8_end_107 (Or.inl ⟨by simp [b6], hF.1, by show _ = if tvT mu 100 9 = -1 then -4 else tvT mu 100 12 - 1; rw [← show mG 53 14 = tvT mu 100 9 from hF.2 9 (by decide), ← show mG 53 13 = tvT mu 100 12 from hF.2 12 (by decide)]; rw [if_neg c35]⟩)
      · skip
        subst ew
        refine o_tableIn (off := 63) (tgt := 108) dX8_end_45 (by decide) (by decide) (by rfl) (by decide) ?_
        refine o_aload_n dX8_end_108 rfl rfl (by rfl) ?_
        refine o_getC (q := 53) cl_X8_28 dX8_end_109 rfl (by decide) (by rfl) (by rfl) ?_
        refine o_getI cl_X8_176 dX8_end_112 rfl (by decide) (by rfl) (by rfl) ?_
        exact o_iret hq dX8_end_115 (Or.inl ⟨by simp [b6], hF.1, by exact hF.2 10 (by decide)⟩)
      · skip
        refine o_tableOut (tgt := 116) dX8_end_45 hw (by decide) ?_
        have e8 : what = 3 := by have h := inB_t b6; rw [i_lt, i_lt] at h; have e1 : (3 : Int32).toInt = 3 := rfl; have e0 : (0 : Int32).toInt = 0 := rfl; rw [i_eq]; omega
        subst e8
        refine o_aload_n dX8_end_116 rfl rfl (by rfl) ?_
        refine o_getC (q := 53) cl_X8_28 dX8_end_117 rfl (by decide) (by rfl) (by rfl) ?_
        refine o_getI cl_X8_179 dX8_end_120 rfl (by decide) (by rfl) (by rfl) ?_
        exact o_iret hq dX8_end_123 (Or.inl ⟨by simp [b6], hF.1, by exact hF.2 11 (by decide)⟩)
  · skip
    have b6 := (if10 h1).1 c6
    refine o_iconst (v := (-1)) dX8_end_9 rfl (by decide) ?_
    exact o_iret hq dX8_end_10 (Or.inr ⟨by simp [b6], rfl, rfl⟩)
set_option maxHeartbeats 4000000 in
set_option maxRecDepth 100000 in
theorem c_X8_count (mu : Mu) (hS : SOK mu 1) (what : Int32) (z : Nat) (ez : mu 9 2 = nI z) (hz : z ≤ 6) : Con yX8_count cX8_count 2 (some .int) 2 [vC 0, vI what] mu (fun r mu2 => mu2 = mu ∧ r = if what = 0 then mu 3 2 else if what = 1 then mu 9 2 else if what = 2 then stS mu z else if what = 3 then mu 17 2 else -1) := by
  refine con_of (own := RX8) (by decide) rfl (Nat.le_of_ble_eq_true rfl) (fun X g hq => ?_)
  show WA X g RX8 2 cX8_count 0 [(0, vC 0), (1, vI what)] [] mu
  refine o_iload_n dX8_count_0 rfl rfl (by rfl) ?_
  rcases sw4 what with ew | ew | ew | ew | hw
  · skip
    subst ew
    refine o_tableIn (off := 31) (tgt := 32) dX8_count_1 (by decide) (by decide) (by rfl) (by decide) ?_
    refine o_aload_n dX8_count_32 rfl rfl (by rfl) ?_
    refine o_getC (q := 1) cl_X8_10 dX8_count_33 rfl (by decide) (by rfl) (by rfl) ?_
    refine o_getC (q := 3) cl_X8_74 dX8_count_36 rfl (by decide) (by rfl) (by rfl) ?_
    refine o_getI cl_X8_182 dX8_count_39 rfl (by decide) (by rfl) (by rfl) ?_
    exact o_iret hq dX8_count_42 ⟨rfl, rfl⟩
  · skip
    subst ew
    refine o_tableIn (off := 42) (tgt := 43) dX8_count_1 (by decide) (by decide) (by rfl) (by decide) ?_
    refine o_aload_n dX8_count_43 rfl rfl (by rfl) ?_
    refine o_getC (q := 1) cl_X8_10 dX8_count_44 rfl (by decide) (by rfl) (by rfl) ?_
    refine o_getC (q := 9) cl_X8_97 dX8_count_47 rfl (by decide) (by rfl) (by rfl) ?_
    refine o_getI cl_X8_182 dX8_count_50 rfl (by decide) (by rfl) (by rfl) ?_
    exact o_iret hq dX8_count_53 ⟨rfl, rfl⟩
  · skip
    subst ew
    refine o_tableIn (off := 53) (tgt := 54) dX8_count_1 (by decide) (by decide) (by rfl) (by decide) ?_
    refine o_aload_n dX8_count_54 rfl rfl (by rfl) ?_
    refine o_getC (q := 1) cl_X8_10 dX8_count_55 rfl (by decide) (by rfl) (by rfl) ?_
    refine o_callV cs_X4_pullSteps cv_X8_183 (c_X4_pullSteps _ hS z ez hz) hq.2.2.2 (Nat.le_of_ble_eq_true rfl) dX8_count_58 rfl (by decide) (by rfl) (by rfl) (by rfl) rfl rfl (Nat.le_of_ble_eq_true rfl) (fun r m h => ?_)
    exact o_iret hq dX8_count_61 ⟨h.1, h.2⟩
  · skip
    subst ew
    refine o_tableIn (off := 61) (tgt := 62) dX8_count_1 (by decide) (by decide) (by rfl) (by decide) ?_
    refine o_aload_n dX8_count_62 rfl rfl (by rfl) ?_
    refine o_getC (q := 1) cl_X8_10 dX8_count_63 rfl (by decide) (by rfl) (by rfl) ?_
    refine o_getC (q := 17) cl_X8_186 dX8_count_66 rfl (by decide) (by rfl) (by rfl) ?_
    refine o_getI cl_X8_182 dX8_count_69 rfl (by decide) (by rfl) (by rfl) ?_
    exact o_iret hq dX8_count_72 ⟨rfl, rfl⟩
  · skip
    refine o_tableOut (tgt := 73) dX8_count_1 hw (by decide) ?_
    have n0 : ¬ what = 0 := fun e => by rw [e] at hw; exact absurd hw (by decide)
    have n1 : ¬ what = 1 := fun e => by rw [e] at hw; exact absurd hw (by decide)
    have n2 : ¬ what = 2 := fun e => by rw [e] at hw; exact absurd hw (by decide)
    have n3 : ¬ what = 3 := fun e => by rw [e] at hw; exact absurd hw (by decide)
    refine o_iconst (v := (-1)) dX8_count_73 rfl (by decide) ?_
    exact o_iret hq dX8_count_74 ⟨rfl, by rw [if_neg n0, if_neg n1, if_neg n2, if_neg n3]⟩
set_option maxHeartbeats 4000000 in
set_option maxRecDepth 100000 in
theorem c_X8_ends (mu : Mu) (hS : SOK mu 1) (u v : Int32) : Con yX8_ends cX8_ends 4 (some .int) 6 [vC 0, vI u, vI v] mu (fun r mu2 => ((inB u (-4) 4 && inB v 0 9) = false ∧ r = -1 ∧ mu2 = mu) ∨ ((inB u (-4) 4 && inB v 0 9) = true ∧ mu 9 2 = 0 ∧ r = -2 ∧ mu2 = mu) ∨ ((inB u (-4) 4 && inB v 0 9) = true ∧ ¬ mu 9 2 = 0 ∧ fr2 mu mu2 ∧ rg u (-10) 10 ∧ rg v (-10) 10 ∧ r = if tv mu (mu 2 0) u v 1 (-1) 0 100 9 = -1 then -4 else tv mu (mu 2 0) u v 1 (-1) 0 100 9)) := by
  refine con_of (own := RX8) (by decide) rfl (Nat.le_of_ble_eq_true rfl) (fun X g hq => ?_)
  show WA X g RX8 4 cX8_ends 0 [(0, vC 0), (1, vI u), (2, vI v)] [] mu
  refine o_iload_n dX8_ends_0 rfl rfl (by rfl) ?_
  refine o_bipush (v := (-4)) dX8_ends_1 rfl (by decide) ?_
  refine o_iconst (v := 4) dX8_ends_3 rfl (by decide) ?_
  refine o_callS cs_X8_isIn ct_X8_60 (c_isIn _ u ((-4)) 4) hq.2.2.2 (Nat.le_of_ble_eq_true rfl) dX8_ends_4 rfl rfl rfl (Nat.le_of_ble_eq_true rfl) (fun r1 mu1 h1 => ?_)
  obtain ⟨em, h1⟩ := h1
  rw [em]
  refine o_if_eq (tgt := 20) dX8_ends_7 (by decide) rfl (fun (c7 : r1 = 0) => ?_) (fun (c7 : ¬ r1 = 0) => ?_)
  · skip
    have b7 := (if10 h1).1 c7
    refine o_iconst (v := (-1)) dX8_ends_20 rfl (by decide) ?_
    exact o_iret hq dX8_ends_21 (Or.inl ⟨by simp [b7], rfl, rfl⟩)
  · skip
    have b7 := (if10 h1).2 c7
    refine o_iload_n dX8_ends_10 rfl rfl (by rfl) ?_
    refine o_iconst (v := 0) dX8_ends_11 rfl (by decide) ?_
    refine o_bipush (v := 9) dX8_ends_12 rfl (by decide) ?_
    refine o_callS cs_X8_isIn ct_X8_60 (c_isIn _ v 0 9) hq.2.2.2 (Nat.le_of_ble_eq_true rfl) dX8_ends_14 rfl rfl rfl (Nat.le_of_ble_eq_true rfl) (fun r2 mu2 h2 => ?_)
    obtain ⟨em, h2⟩ := h2
    rw [em]
    refine o_if_ne (tgt := 22) dX8_ends_17 (by decide) rfl (fun (c17 : ¬ r2 = 0) => ?_) (fun (c17 : r2 = 0) => ?_)
    · skip
      have b17 := (if10 h2).2 c17
      refine o_aload_n dX8_ends_22 rfl rfl (by rfl) ?_
      refine o_getC (q := 1) cl_X8_10 dX8_ends_23 rfl (by decide) (by rfl) (by rfl) ?_
      refine o_callV cs_X4_hasNoPart cv_X8_189 (c_noPart _) hq.2.2.2 (Nat.le_of_ble_eq_true rfl) dX8_ends_26 rfl (by decide) (by rfl) (by rfl) (by rfl) rfl rfl (Nat.le_of_ble_eq_true rfl) (fun r3 mu3 h3 => ?_)
      obtain ⟨em, h3⟩ := h3
      rw [em]
      refine o_if_eq (tgt := 35) dX8_ends_29 (by decide) rfl (fun (c29 : r3 = 0) => ?_) (fun (c29 : ¬ r3 = 0) => ?_)
      · skip
        have b29 := (if10 h3).1 c29
        have hu : rg u (-10) 10 := by have h := inB_rg (l := -4) (m := 4) b7 (by decide) (by decide) (by decide) (by decide); exact ⟨by have := h.1; omega, by have := h.2; omega⟩
        have hv : rg v (-10) 10 := by have h := inB_rg (l := 0) (m := 9) b17 (by decide) (by decide) (by decide) (by decide); exact ⟨by have := h.1; omega, by have := h.2; omega⟩
        refine o_aload_n dX8_ends_35 rfl rfl (by rfl) ?_
        refine o_getC (q := 53) cl_X8_28 dX8_ends_36 rfl (by decide) (by rfl) (by rfl) ?_
        refine o_aload_n dX8_ends_39 rfl rfl (by rfl) ?_
        refine o_getC (q := 1) cl_X8_10 dX8_ends_40 rfl (by decide) (by rfl) (by rfl) ?_
        refine o_getC (q := 2) cl_X8_71 dX8_ends_43 rfl (by decide) (by rfl) (by rfl) ?_
        refine o_iconst (v := 0) dX8_ends_46 rfl (by decide) ?_
        refine o_iald dX8_ends_47 rfl (by decide) (by rfl) (by rfl) (vp_in_nI (n := 0) (by decide) (by decide)) ?_
        refine o_iload_n dX8_ends_48 rfl rfl (by rfl) ?_
        refine o_iload_n dX8_ends_49 rfl rfl (by rfl) ?_
        refine o_callV cs_X7_endBy cv_X8_192 (c_X7_endBy _ hS (mu 2 0) u v hS.1.1 hu hv) hq.2.2.2 (Nat.le_of_ble_eq_true rfl) dX8_ends_50 rfl (by decide) (by rfl) (by rfl) (by rfl) rfl rfl (Nat.le_of_ble_eq_true rfl) (fun rE mE hE => ?_)
        refine o_istore_n (L' := [(0, vC 0), (1, vI u), (2, vI v), (3, vI rE)]) dX8_ends_53 rfl rfl (by decide) (by rfl) (by rfl) ?_
        refine o_iload_n dX8_ends_54 rfl rfl (by rfl) ?_
        refine o_iconst (v := (-1)) dX8_ends_55 rfl (by decide) ?_
        refine o_icmp_ne (tgt := 64) dX8_ends_56 (by decide) rfl (fun (c56 : ¬ rE = ((-1))) => ?_) (fun (c56 : rE = ((-1))) => ?_)
        · skip
          refine o_iload_n dX8_ends_64 rfl rfl (by rfl) ?_
          exact o_iret hq dX8_ends_65 (Or.inr (Or.inr ⟨by simp [b7, b17, b29], fun e => b29 (decide_eq_true e), hE.1, hu, hv, by rw [← hE.2, if_neg c56]⟩))
        · skip
          refine o_bipush (v := (-4)) dX8_ends_59 rfl (by decide) ?_
          refine o_goto (tgt := 65) dX8_ends_61 (by decide) ?_
          exact o_iret hq dX8_ends_65 (Or.inr (Or.inr ⟨by simp [b7, b17, b29], fun e => b29 (decide_eq_true e), hE.1, hu, hv, by rw [← hE.2, if_pos c56]⟩))
      · skip
        have b29 := (if10 h3).2 c29
        refine o_bipush (v := (-2)) dX8_ends_32 rfl (by decide) ?_
        exact o_iret hq dX8_ends_34 (Or.inr (Or.inl ⟨by simp [b7, b17, b29], of_decide_eq_true b29, rfl, rfl⟩))
    · skip
      have b17 := (if10 h2).1 c17
      refine o_iconst (v := (-1)) dX8_ends_20 rfl (by decide) ?_
      exact o_iret hq dX8_ends_21 (Or.inl ⟨by simp [b7, b17], rfl, rfl⟩)
set_option maxHeartbeats 4000000 in
set_option maxRecDepth 100000 in
theorem c_X8_odds (mu : Mu) (hS : SOK mu 1) (cup : Int32) : Con yX8_odds cX8_odds 2 (some .int) 7 [vC 0, vI cup] mu (fun r mu2 => (hasB mu 3 cup = false ∧ r = -1 ∧ mu2 = mu) ∨ (hasB mu 3 cup = true ∧ mu 9 2 = 0 ∧ r = -2 ∧ mu2 = mu) ∨ (hasB mu 3 cup = true ∧ ¬ mu 9 2 = 0 ∧ fr2 mu mu2 ∧ r = odS mu (mu 2 0) cup 9)) := by
  refine con_of (own := RX8) (by decide) rfl (Nat.le_of_ble_eq_true rfl) (fun X g hq => ?_)
  show WA X g RX8 2 cX8_odds 0 [(0, vC 0), (1, vI cup)] [] mu
  refine o_aload_n dX8_odds_0 rfl rfl (by rfl) ?_
  refine o_getC (q := 1) cl_X8_10 dX8_odds_1 rfl (by decide) (by rfl) (by rfl) ?_
  refine o_getC (q := 3) cl_X8_74 dX8_odds_4 rfl (by decide) (by rfl) (by rfl) ?_
  refine o_iload_n dX8_odds_7 rfl rfl (by rfl) ?_
  refine o_callV cs_X6_has cv_X8_88 (c_has 3 4 5 tab3 _ cup) hq.2.2.2 (Nat.le_of_ble_eq_true rfl) dX8_odds_8 rfl (by decide) (by rfl) (by rfl) (by rfl) rfl rfl (Nat.le_of_ble_eq_true rfl) (fun r1 mu1 h1 => ?_)
  obtain ⟨em, h1⟩ := h1
  rw [em]
  refine o_if_ne (tgt := 16) dX8_odds_11 (by decide) rfl (fun (c11 : ¬ r1 = 0) => ?_) (fun (c11 : r1 = 0) => ?_)
  · skip
    have b11 := (if10 h1).2 c11
    refine o_aload_n dX8_odds_16 rfl rfl (by rfl) ?_
    refine o_getC (q := 1) cl_X8_10 dX8_odds_17 rfl (by decide) (by rfl) (by rfl) ?_
    refine o_callV cs_X4_hasNoPart cv_X8_189 (c_noPart _) hq.2.2.2 (Nat.le_of_ble_eq_true rfl) dX8_odds_20 rfl (by decide) (by rfl) (by rfl) (by rfl) rfl rfl (Nat.le_of_ble_eq_true rfl) (fun r2 mu2 h2 => ?_)
    obtain ⟨em, h2⟩ := h2
    rw [em]
    refine o_if_eq (tgt := 31) dX8_odds_23 (by decide) rfl (fun (c23 : r2 = 0) => ?_) (fun (c23 : ¬ r2 = 0) => ?_)
    · skip
      have b23 := (if10 h2).1 c23
      refine o_aload_n dX8_odds_31 rfl rfl (by rfl) ?_
      refine o_getC (q := 53) cl_X8_28 dX8_odds_32 rfl (by decide) (by rfl) (by rfl) ?_
      refine o_aload_n dX8_odds_35 rfl rfl (by rfl) ?_
      refine o_getC (q := 1) cl_X8_10 dX8_odds_36 rfl (by decide) (by rfl) (by rfl) ?_
      refine o_getC (q := 2) cl_X8_71 dX8_odds_39 rfl (by decide) (by rfl) (by rfl) ?_
      refine o_iconst (v := 0) dX8_odds_42 rfl (by decide) ?_
      refine o_iald dX8_odds_43 rfl (by decide) (by rfl) (by rfl) (vp_in_nI (n := 0) (by decide) (by decide)) ?_
      refine o_iload_n dX8_odds_44 rfl rfl (by rfl) ?_
      refine o_callV cs_X7_oddsBy cv_X8_231 (c_X7_oddsBy _ hS (mu 2 0) cup hS.1.1) hq.2.2.2 (Nat.le_of_ble_eq_true rfl) dX8_odds_45 rfl (by decide) (by rfl) (by rfl) (by rfl) rfl rfl (Nat.le_of_ble_eq_true rfl) (fun rE mE hE => ?_)
      exact o_iret hq dX8_odds_48 (Or.inr (Or.inr ⟨by simp [b11, b23], fun e => b23 (decide_eq_true e), hE⟩))
    · skip
      have b23 := (if10 h2).2 c23
      refine o_bipush (v := (-2)) dX8_odds_26 rfl (by decide) ?_
      refine o_goto (tgt := 48) dX8_odds_28 (by decide) ?_
      exact o_iret hq dX8_odds_48 (Or.inr (Or.inl ⟨by simp [b11, b23], of_decide_eq_true b23, rfl, rfl⟩))
  · skip
    have b11 := (if10 h1).1 c11
    refine o_iconst (v := (-1)) dX8_odds_14 rfl (by decide) ?_
    exact o_iret hq dX8_odds_15 (Or.inl ⟨by simp [b11], rfl, rfl⟩)
