/-! ===== the tables of the world ===== -/
theorem tab3 : isTab 3 4 5 := ⟨by decide, rfl, rfl, rfl, by decide +kernel, by decide, by decide⟩
theorem tab9 : isTab 9 6 3 := ⟨by decide, rfl, rfl, rfl, by decide +kernel, by decide, by decide⟩
theorem tab17 : isTab 17 8 4 := ⟨by decide, rfl, rfl, rfl, by decide +kernel, by decide, by decide⟩
theorem tab29 : isTab 29 4 5 := ⟨by decide, rfl, rfl, rfl, by decide +kernel, by decide, by decide⟩
theorem tab35 : isTab 35 6 3 := ⟨by decide, rfl, rfl, rfl, by decide +kernel, by decide, by decide⟩
theorem tab43 : isTab 43 8 4 := ⟨by decide, rfl, rfl, rfl, by decide +kernel, by decide, by decide⟩
theorem tab72 : isTab 72 4 5 := ⟨by decide, rfl, rfl, rfl, by decide +kernel, by decide, by decide⟩
theorem tab78 : isTab 78 6 3 := ⟨by decide, rfl, rfl, rfl, by decide +kernel, by decide, by decide⟩
theorem TOK.cg {m mu : Mu} {k n c : Nat} (e : m k = mu k) (h : TOK mu k n c) : TOK m k n c := by
  unfold TOK
  rw [e]
  exact h
theorem tget_cg {m mu : Mu} {k n c : Nat} {row col : Int32} (hT : isTab k n c) (hO : TOK mu k n c) (h : ∀ q, k ≤ q → q < k + 2 + n → m q = mu q) : tget m k row col = tget mu k row col := by
  unfold tget
  rw [h k (Nat.le_refl k) (by omega)]
  by_cases e : (¬ row < 0 ∧ ¬ mu k 2 ≤ row) ∧ (¬ col < 0 ∧ ¬ mu k 1 ≤ col)
  · have := clamp_lt (tin.row hT hO e.1.1 e.1.2)
    rw [if_pos e, if_pos e, h _ (by omega) (by omega)]
  · rw [if_neg e, if_neg e]
/-! ===== Hand ===== -/
theorem v9 {f g : Vc} (h1 : f 1 = g 1) (h2 : f 2 = g 2) (h3 : f 3 = g 3) (h4 : f 4 = g 4) (h5 : f 5 = g 5) (h6 : f 6 = g 6) (h7 : f 7 = g 7) (h8 : f 8 = g 8) : ∀ j, 0 < j → j < 9 → f j = g j := by
  intro j a b
  match j, a, b with
  | 1, _, _ => exact h1
  | 2, _, _ => exact h2
  | 3, _, _ => exact h3
  | 4, _, _ => exact h4
  | 5, _, _ => exact h5
  | 6, _, _ => exact h6
  | 7, _, _ => exact h7
  | 8, _, _ => exact h8
  | j + 9, _, b => omega
def hbeg (u v : Int32) (j : Nat) : Int32 := if j = 1 then u else if j = 2 then v else if j = 3 then -1 else 0
def hmid (mu : Mu) (f : Vc) : Int32 × Int32 := if f 4 = 0 ∧ ¬ mu 9 2 ≤ f 3 then (f 3 + 1, tget mu 9 (f 3 + 1) 0) else (f 3, f 4)
def hgoU (mu : Mu) (f : Vc) : Int32 := if ¬ (hmid mu f).2 ≤ 0 then (if (hmid mu f).1 = 0 then f 1 else tget mu 9 (hmid mu f).1 1) else 0
def hgoV (mu : Mu) (f : Vc) : Int32 := if ¬ (hmid mu f).2 ≤ 0 then (if (hmid mu f).1 = 0 then f 2 else tget mu 9 (hmid mu f).1 2) else 0
def hgoF (mu : Mu) (a : Int32) (f : Vc) (j : Nat) : Int32 := if j = 1 then f 1 else if j = 2 then f 2 else if j = 3 then (hmid mu f).1 else if j = 4 then (if ¬ (hmid mu f).2 ≤ 0 then (hmid mu f).2 - 1 else (hmid mu f).2) else if j = 5 then a + hgoU mu f else if j = 6 then hgoV mu f else if j = 7 then f 7 + (a + hgoU mu f) else f 8 + hgoV mu f
set_option maxHeartbeats 4000000 in
set_option maxRecDepth 100000 in
theorem c_X1_begin (mu : Mu) (u v : Int32) : ConV yX1_begin cX1_begin 3 0 [vC 54, vI u, vI v] mu (fun mu2 => (∀ q, q ≠ 54 → mu2 q = mu q) ∧ ∀ j, 0 < j → j < 9 → mu2 54 j = hbeg u v j) := by
  refine conV_of (own := RX1) (by decide) rfl (Nat.le_of_ble_eq_true rfl) (fun X g hq => ?_)
  show WA X g RX1 3 cX1_begin 0 [(0, vC 54), (1, vI u), (2, vI v)] [] mu
  refine o_aload_n dX1_begin_0 rfl rfl (by rfl) ?_
  refine o_iload_n dX1_begin_1 rfl rfl (by rfl) ?_
  refine o_put cl_X1_15 cp_X1_1 dX1_begin_2 rfl (by decide) (by rfl) (by rfl) fitI ?_
  refine o_aload_n dX1_begin_5 rfl rfl (by rfl) ?_
  refine o_iload_n dX1_begin_6 rfl rfl (by rfl) ?_
  refine o_put cl_X1_19 cp_X1_2 dX1_begin_7 rfl (by decide) (by rfl) (by rfl) fitI ?_
  refine o_aload_n dX1_begin_10 rfl rfl (by rfl) ?_
  refine o_iconst (v := (-1)) dX1_begin_11 rfl (by decide) ?_
  refine o_put cl_X1_22 cp_X1_3 dX1_begin_12 rfl (by decide) (by rfl) (by rfl) fitI ?_
  refine o_aload_n dX1_begin_15 rfl rfl (by rfl) ?_
  refine o_iconst (v := 0) dX1_begin_16 rfl (by decide) ?_
  refine o_put cl_X1_25 cp_X1_4 dX1_begin_17 rfl (by decide) (by rfl) (by rfl) fitI ?_
  refine o_aload_n dX1_begin_20 rfl rfl (by rfl) ?_
  refine o_iconst (v := 0) dX1_begin_21 rfl (by decide) ?_
  refine o_put cl_X1_28 cp_X1_5 dX1_begin_22 rfl (by decide) (by rfl) (by rfl) fitI ?_
  refine o_aload_n dX1_begin_25 rfl rfl (by rfl) ?_
  refine o_iconst (v := 0) dX1_begin_26 rfl (by decide) ?_
  refine o_put cl_X1_31 cp_X1_6 dX1_begin_27 rfl (by decide) (by rfl) (by rfl) fitI ?_
  refine o_aload_n dX1_begin_30 rfl rfl (by rfl) ?_
  refine o_iconst (v := 0) dX1_begin_31 rfl (by decide) ?_
  refine o_put cl_X1_34 cp_X1_7 dX1_begin_32 rfl (by decide) (by rfl) (by rfl) fitI ?_
  refine o_aload_n dX1_begin_35 rfl rfl (by rfl) ?_
  refine o_iconst (v := 0) dX1_begin_36 rfl (by decide) ?_
  refine o_put cl_X1_37 cp_X1_8 dX1_begin_37 rfl (by decide) (by rfl) (by rfl) fitI ?_
  exact o_vret hq dX1_begin_40 ⟨fun q hq => by simp [upF, upM, hq], by apply v9 <;> simp [upF, upM, upd, hbeg]⟩
set_option maxHeartbeats 4000000 in
set_option maxRecDepth 100000 in
theorem c_X1_go (mu : Mu) (hO : TOK mu 9 6 3) (aside : Int32) : ConV yX1_go cX1_go 2 1 [vC 54, vI aside] mu (fun mu2 => (∀ q, q ≠ 54 → mu2 q = mu q) ∧ ∀ j, 0 < j → j < 9 → mu2 54 j = hgoF mu aside (mu 54) j) := by
  refine conV_of (own := RX1) (by decide) rfl (Nat.le_of_ble_eq_true rfl) (fun X g hq => ?_)
  show WA X g RX1 2 cX1_go 0 [(0, vC 54), (1, vI aside)] [] mu
  refine o_aload_n dX1_go_0 rfl rfl (by rfl) ?_
  refine o_getI cl_X1_25 dX1_go_1 rfl (by decide) (by rfl) (by rfl) ?_
  refine o_if_ne (tgt := 47) dX1_go_4 (by decide) rfl (fun (c4 : ¬ (mu 54 4) = 0) => ?_) (fun (c4 : (mu 54 4) = 0) => ?_)
  · skip
    refine o_aload_n dX1_go_47 rfl rfl (by rfl) ?_
    refine o_iload_n dX1_go_48 rfl rfl (by rfl) ?_
    refine o_put cl_X1_28 cp_X1_5 dX1_go_49 rfl (by decide) (by rfl) (by rfl) fitI ?_
    refine o_aload_n dX1_go_52 rfl rfl (by rfl) ?_
    refine o_iconst (v := 0) dX1_go_53 rfl (by decide) ?_
    refine o_put cl_X1_31 cp_X1_6 dX1_go_54 rfl (by decide) (by rfl) (by rfl) fitI ?_
    refine o_aload_n dX1_go_57 rfl rfl (by rfl) ?_
    refine o_getI cl_X1_25 dX1_go_58 rfl (by decide) (by rfl) (by rfl) ?_
    refine o_if_le (tgt := 139) dX1_go_61 (by decide) rfl (fun (c61 : (mu 54 4) ≤ 0) => ?_) (fun (c61 : ¬ (mu 54 4) ≤ 0) => ?_)
    · skip
      refine o_aload_n dX1_go_139 rfl rfl (by rfl) ?_
      refine o_dup dX1_go_140 rfl rfl ?_
      refine o_getI cl_X1_34 dX1_go_141 rfl (by decide) (by rfl) (by rfl) ?_
      refine o_aload_n dX1_go_144 rfl rfl (by rfl) ?_
      refine o_getI cl_X1_28 dX1_go_145 rfl (by decide) (by rfl) (by rfl) ?_
      refine o_iadd dX1_go_148 rfl ?_
      refine o_put cl_X1_34 cp_X1_7 dX1_go_149 rfl (by decide) (by rfl) (by rfl) fitI ?_
      refine o_aload_n dX1_go_152 rfl rfl (by rfl) ?_
      refine o_dup dX1_go_153 rfl rfl ?_
      refine o_getI cl_X1_37 dX1_go_154 rfl (by decide) (by rfl) (by rfl) ?_
      refine o_aload_n dX1_go_157 rfl rfl (by rfl) ?_
      refine o_getI cl_X1_31 dX1_go_158 rfl (by decide) (by rfl) (by rfl) ?_
      refine o_iadd dX1_go_161 rfl ?_
      refine o_put cl_X1_37 cp_X1_8 dX1_go_162 rfl (by decide) (by rfl) (by rfl) fitI ?_
      exact o_vret hq dX1_go_165 ⟨fun q hq => by simp [upF, upM, hq], by apply v9 <;> simp [upF, upM, upd, hgoF, hgoU, hgoV, hmid, c4, c61]⟩
    · skip
      refine o_aload_n dX1_go_64 rfl rfl (by rfl) ?_
      refine o_dup dX1_go_65 rfl rfl ?_
      refine o_getI cl_X1_25 dX1_go_66 rfl (by decide) (by rfl) (by rfl) ?_
      refine o_iconst (v := 1) dX1_go_69 rfl (by decide) ?_
      refine o_isub dX1_go_70 rfl ?_
      refine o_put cl_X1_25 cp_X1_4 dX1_go_71 rfl (by decide) (by rfl) (by rfl) fitI ?_
      refine o_aload_n dX1_go_74 rfl rfl (by rfl) ?_
      refine o_dup dX1_go_75 rfl rfl ?_
      refine o_getI cl_X1_28 dX1_go_76 rfl (by decide) (by rfl) (by rfl) ?_
      refine o_aload_n dX1_go_79 rfl rfl (by rfl) ?_
      refine o_getI cl_X1_22 dX1_go_80 rfl (by decide) (by rfl) (by rfl) ?_
      refine o_if_ne (tgt := 93) dX1_go_83 (by decide) rfl (fun (c83 : ¬ (mu 54 3) = 0) => ?_) (fun (c83 : (mu 54 3) = 0) => ?_)
      · skip
        refine o_aload_n dX1_go_93 rfl rfl (by rfl) ?_
        refine o_getC (q := 9) cl_X1_9 dX1_go_94 rfl (by decide) (by rfl) (by rfl) ?_
        refine o_aload_n dX1_go_97 rfl rfl (by rfl) ?_
        refine o_getI cl_X1_22 dX1_go_98 rfl (by decide) (by rfl) (by rfl) ?_
        refine o_iconst (v := 1) dX1_go_101 rfl (by decide) ?_
        refine o_callV cs_X6_get cv_X1_45 (c_X6_get 9 6 3 tab9 _ (TOK.cg (by rfl) hO) (mu 54 3) 1) hq.2.2.2 (Nat.le_of_ble_eq_true rfl) dX1_go_102 rfl (by decide) (by rfl) (by rfl) (by rfl) rfl rfl (Nat.le_of_ble_eq_true rfl) (fun r1 mu1 h1 => ?_)
        obtain ⟨em, h1⟩ := h1
        rw [em]
        rw [tget_cg tab9 hO (fun q h1 h2 => by simp [upF, upM, show q ≠ 54 by omega])] at h1
        refine o_iadd dX1_go_105 rfl ?_
        refine o_put cl_X1_28 cp_X1_5 dX1_go_106 rfl (by decide) (by rfl) (by rfl) fitI ?_
        refine o_aload_n dX1_go_109 rfl rfl (by rfl) ?_
        refine o_aload_n dX1_go_110 rfl rfl (by rfl) ?_
        refine o_getI cl_X1_22 dX1_go_111 rfl (by decide) (by rfl) (by rfl) ?_
        refine o_if_ne (tgt := 124) dX1_go_114 (by decide) rfl (fun (c114 : ¬ (mu 54 3) = 0) => ?_) (fun (c114 : (mu 54 3) = 0) => ?_)
        · skip
          refine o_aload_n dX1_go_124 rfl rfl (by rfl) ?_
          refine o_getC (q := 9) cl_X1_9 dX1_go_125 rfl (by decide) (by rfl) (by rfl) ?_
          refine o_aload_n dX1_go_128 rfl rfl (by rfl) ?_
          refine o_getI cl_X1_22 dX1_go_129 rfl (by decide) (by rfl) (by rfl) ?_
          refine o_iconst (v := 2) dX1_go_132 rfl (by decide) ?_
          refine o_callV cs_X6_get cv_X1_45 (c_X6_get 9 6 3 tab9 _ (TOK.cg (by rfl) hO) (mu 54 3) 2) hq.2.2.2 (Nat.le_of_ble_eq_true rfl) dX1_go_133 rfl (by decide) (by rfl) (by rfl) (by rfl) rfl rfl (Nat.le_of_ble_eq_true rfl) (fun r2 mu2 h2 => ?_)
          obtain ⟨em, h2⟩ := h2
          rw [em]
          rw [tget_cg tab9 hO (fun q h1 h2 => by simp [upF, upM, show q ≠ 54 by omega])] at h2
          refine o_put cl_X1_31 cp_X1_6 dX1_go_136 rfl (by decide) (by rfl) (by rfl) fitI ?_
          refine o_aload_n dX1_go_139 rfl rfl (by rfl) ?_
          refine o_dup dX1_go_140 rfl rfl ?_
          refine o_getI cl_X1_34 dX1_go_141 rfl (by decide) (by rfl) (by rfl) ?_
          refine o_aload_n dX1_go_144 rfl rfl (by rfl) ?_
          refine o_getI cl_X1_28 dX1_go_145 rfl (by decide) (by rfl) (by rfl) ?_
          refine o_iadd dX1_go_148 rfl ?_
          refine o_put cl_X1_34 cp_X1_7 dX1_go_149 rfl (by decide) (by rfl) (by rfl) fitI ?_
          refine o_aload_n dX1_go_152 rfl rfl (by rfl) ?_
          refine o_dup dX1_go_153 rfl rfl ?_
          refine o_getI cl_X1_37 dX1_go_154 rfl (by decide) (by rfl) (by rfl) ?_
          refine o_aload_n dX1_go_157 rfl rfl (by rfl) ?_
          refine o_getI cl_X1_31 dX1_go_158 rfl (by decide) (by rfl) (by rfl) ?_
          refine o_iadd dX1_go_161 rfl ?_
          refine o_put cl_X1_37 cp_X1_8 dX1_go_162 rfl (by decide) (by rfl) (by rfl) fitI ?_
          exact o_vret hq dX1_go_165 ⟨fun q hq => by simp [upF, upM, hq], by apply v9 <;> simp [upF, upM, upd, hgoF, hgoU, hgoV, hmid, c4, c61, c83, c114, ← h1, ← h2]⟩
        · skip
          exact absurd c114 c83
      · skip
        refine o_aload_n dX1_go_86 rfl rfl (by rfl) ?_
        refine o_getI cl_X1_15 dX1_go_87 rfl (by decide) (by rfl) (by rfl) ?_
        refine o_goto (tgt := 105) dX1_go_90 (by decide) ?_
        refine o_iadd dX1_go_105 rfl ?_
        refine o_put cl_X1_28 cp_X1_5 dX1_go_106 rfl (by decide) (by rfl) (by rfl) fitI ?_
        refine o_aload_n dX1_go_109 rfl rfl (by rfl) ?_
        refine o_aload_n dX1_go_110 rfl rfl (by rfl) ?_
        refine o_getI cl_X1_22 dX1_go_111 rfl (by decide) (by rfl) (by rfl) ?_
        refine o_if_ne (tgt := 124) dX1_go_114 (by decide) rfl (fun (c114 : ¬ (mu 54 3) = 0) => ?_) (fun (c114 : (mu 54 3) = 0) => ?_)
        · skip
          exact absurd c83 c114
        · skip
          refine o_aload_n dX1_go_117 rfl rfl (by rfl) ?_
          refine o_getI cl_X1_19 dX1_go_118 rfl (by decide) (by rfl) (by rfl) ?_
          refine o_goto (tgt := 136) dX1_go_121 (by decide) ?_
          refine o_put cl_X1_31 cp_X1_6 dX1_go_136 rfl (by decide) (by rfl) (by rfl) fitI ?_
          refine o_aload_n dX1_go_139 rfl rfl (by rfl) ?_
          refine o_dup dX1_go_140 rfl rfl ?_
          refine o_getI cl_X1_34 dX1_go_141 rfl (by decide) (by rfl) (by rfl) ?_
          refine o_aload_n dX1_go_144 rfl rfl (by rfl) ?_
          refine o_getI cl_X1_28 dX1_go_145 rfl (by decide) (by rfl) (by rfl) ?_
          refine o_iadd dX1_go_148 rfl ?_
          refine o_put cl_X1_34 cp_X1_7 dX1_go_149 rfl (by decide) (by rfl) (by rfl) fitI ?_
          refine o_aload_n dX1_go_152 rfl rfl (by rfl) ?_
          refine o_dup dX1_go_153 rfl rfl ?_
          refine o_getI cl_X1_37 dX1_go_154 rfl (by decide) (by rfl) (by rfl) ?_
          refine o_aload_n dX1_go_157 rfl rfl (by rfl) ?_
          refine o_getI cl_X1_31 dX1_go_158 rfl (by decide) (by rfl) (by rfl) ?_
          refine o_iadd dX1_go_161 rfl ?_
          refine o_put cl_X1_37 cp_X1_8 dX1_go_162 rfl (by decide) (by rfl) (by rfl) fitI ?_
          exact o_vret hq dX1_go_165 ⟨fun q hq => by simp [upF, upM, hq], by apply v9 <;> simp [upF, upM, upd, hgoF, hgoU, hgoV, hmid, c4, c61, c83, c114]⟩
  · skip
    refine o_aload_n dX1_go_7 rfl rfl (by rfl) ?_
    refine o_getI cl_X1_22 dX1_go_8 rfl (by decide) (by rfl) (by rfl) ?_
    refine o_aload_n dX1_go_11 rfl rfl (by rfl) ?_
    refine o_getC (q := 9) cl_X1_9 dX1_go_12 rfl (by decide) (by rfl) (by rfl) ?_
    refine o_getI cl_X1_40 dX1_go_15 rfl (by decide) (by rfl) (by rfl) ?_
    refine o_icmp_ge (tgt := 47) dX1_go_18 (by decide) rfl (fun (c18 : (mu 9 2) ≤ (mu 54 3)) => ?_) (fun (c18 : ¬ (mu 9 2) ≤ (mu 54 3)) => ?_)
    · skip
      refine o_aload_n dX1_go_47 rfl rfl (by rfl) ?_
      refine o_iload_n dX1_go_48 rfl rfl (by rfl) ?_
      refine o_put cl_X1_28 cp_X1_5 dX1_go_49 rfl (by decide) (by rfl) (by rfl) fitI ?_
      refine o_aload_n dX1_go_52 rfl rfl (by rfl) ?_
      refine o_iconst (v := 0) dX1_go_53 rfl (by decide) ?_
      refine o_put cl_X1_31 cp_X1_6 dX1_go_54 rfl (by decide) (by rfl) (by rfl) fitI ?_
      refine o_aload_n dX1_go_57 rfl rfl (by rfl) ?_
      refine o_getI cl_X1_25 dX1_go_58 rfl (by decide) (by rfl) (by rfl) ?_
      refine o_if_le (tgt := 139) dX1_go_61 (by decide) rfl (fun (c61 : (mu 54 4) ≤ 0) => ?_) (fun (c61 : ¬ (mu 54 4) ≤ 0) => ?_)
      · skip
        refine o_aload_n dX1_go_139 rfl rfl (by rfl) ?_
        refine o_dup dX1_go_140 rfl rfl ?_
        refine o_getI cl_X1_34 dX1_go_141 rfl (by decide) (by rfl) (by rfl) ?_
        refine o_aload_n dX1_go_144 rfl rfl (by rfl) ?_
        refine o_getI cl_X1_28 dX1_go_145 rfl (by decide) (by rfl) (by rfl) ?_
        refine o_iadd dX1_go_148 rfl ?_
        refine o_put cl_X1_34 cp_X1_7 dX1_go_149 rfl (by decide) (by rfl) (by rfl) fitI ?_
        refine o_aload_n dX1_go_152 rfl rfl (by rfl) ?_
        refine o_dup dX1_go_153 rfl rfl ?_
        refine o_getI cl_X1_37 dX1_go_154 rfl (by decide) (by rfl) (by rfl) ?_
        refine o_aload_n dX1_go_157 rfl rfl (by rfl) ?_
        refine o_getI cl_X1_31 dX1_go_158 rfl (by decide) (by rfl) (by rfl) ?_
        refine o_iadd dX1_go_161 rfl ?_
        refine o_put cl_X1_37 cp_X1_8 dX1_go_162 rfl (by decide) (by rfl) (by rfl) fitI ?_
        exact o_vret hq dX1_go_165 ⟨fun q hq => by simp [upF, upM, hq], by apply v9 <;> simp [upF, upM, upd, hgoF, hgoU, hgoV, hmid, c4, c18, c61]⟩
      · skip
        exact absurd (by rw [c4]; decide) c61
    · skip
      refine o_aload_n dX1_go_21 rfl rfl (by rfl) ?_
      refine o_dup dX1_go_22 rfl rfl ?_
      refine o_getI cl_X1_22 dX1_go_23 rfl (by decide) (by rfl) (by rfl) ?_
      refine o_iconst (v := 1) dX1_go_26 rfl (by decide) ?_
      refine o_iadd dX1_go_27 rfl ?_
      refine o_put cl_X1_22 cp_X1_3 dX1_go_28 rfl (by decide) (by rfl) (by rfl) fitI ?_
      refine o_aload_n dX1_go_31 rfl rfl (by rfl) ?_
      refine o_aload_n dX1_go_32 rfl rfl (by rfl) ?_
      refine o_getC (q := 9) cl_X1_9 dX1_go_33 rfl (by decide) (by rfl) (by rfl) ?_
      refine o_aload_n dX1_go_36 rfl rfl (by rfl) ?_
      refine o_getI cl_X1_22 dX1_go_37 rfl (by decide) (by rfl) (by rfl) ?_
      refine o_iconst (v := 0) dX1_go_40 rfl (by decide) ?_
      refine o_callV cs_X6_get cv_X1_45 (c_X6_get 9 6 3 tab9 _ (TOK.cg (by rfl) hO) ((mu 54 3) + 1) 0) hq.2.2.2 (Nat.le_of_ble_eq_true rfl) dX1_go_41 rfl (by decide) (by rfl) (by rfl) (by rfl) rfl rfl (Nat.le_of_ble_eq_true rfl) (fun r3 mu3 h3 => ?_)
      obtain ⟨em, h3⟩ := h3
      rw [em]
      rw [tget_cg tab9 hO (fun q h1 h2 => by simp [upF, upM, show q ≠ 54 by omega])] at h3
      refine o_put cl_X1_25 cp_X1_4 dX1_go_44 rfl (by decide) (by rfl) (by rfl) fitI ?_
      refine o_aload_n dX1_go_47 rfl rfl (by rfl) ?_
      refine o_iload_n dX1_go_48 rfl rfl (by rfl) ?_
      refine o_put cl_X1_28 cp_X1_5 dX1_go_49 rfl (by decide) (by rfl) (by rfl) fitI ?_
      refine o_aload_n dX1_go_52 rfl rfl (by rfl) ?_
      refine o_iconst (v := 0) dX1_go_53 rfl (by decide) ?_
      refine o_put cl_X1_31 cp_X1_6 dX1_go_54 rfl (by decide) (by rfl) (by rfl) fitI ?_
      refine o_aload_n dX1_go_57 rfl rfl (by rfl) ?_
      refine o_getI cl_X1_25 dX1_go_58 rfl (by decide) (by rfl) (by rfl) ?_
      refine o_if_le (tgt := 139) dX1_go_61 (by decide) rfl (fun (c61 : r3 ≤ 0) => ?_) (fun (c61 : ¬ r3 ≤ 0) => ?_)
      · skip
        refine o_aload_n dX1_go_139 rfl rfl (by rfl) ?_
        refine o_dup dX1_go_140 rfl rfl ?_
        refine o_getI cl_X1_34 dX1_go_141 rfl (by decide) (by rfl) (by rfl) ?_
        refine o_aload_n dX1_go_144 rfl rfl (by rfl) ?_
        refine o_getI cl_X1_28 dX1_go_145 rfl (by decide) (by rfl) (by rfl) ?_
        refine o_iadd dX1_go_148 rfl ?_
        refine o_put cl_X1_34 cp_X1_7 dX1_go_149 rfl (by decide) (by rfl) (by rfl) fitI ?_
        refine o_aload_n dX1_go_152 rfl rfl (by rfl) ?_
        refine o_dup dX1_go_153 rfl rfl ?_
        refine o_getI cl_X1_37 dX1_go_154 rfl (by decide) (by rfl) (by rfl) ?_
        refine o_aload_n dX1_go_157 rfl rfl (by rfl) ?_
        refine o_getI cl_X1_31 dX1_go_158 rfl (by decide) (by rfl) (by rfl) ?_
        refine o_iadd dX1_go_161 rfl ?_
        refine o_put cl_X1_37 cp_X1_8 dX1_go_162 rfl (by decide) (by rfl) (by rfl) fitI ?_
        exact o_vret hq dX1_go_165 ⟨fun q hq => by simp [upF, upM, hq], by apply v9 <;> simp [upF, upM, upd, hgoF, hgoU, hgoV, hmid, c4, c18, c61, ← h3]⟩
      · skip
        refine o_aload_n dX1_go_64 rfl rfl (by rfl) ?_
        refine o_dup dX1_go_65 rfl rfl ?_
        refine o_getI cl_X1_25 dX1_go_66 rfl (by decide) (by rfl) (by rfl) ?_
        refine o_iconst (v := 1) dX1_go_69 rfl (by decide) ?_
        refine o_isub dX1_go_70 rfl ?_
        refine o_put cl_X1_25 cp_X1_4 dX1_go_71 rfl (by decide) (by rfl) (by rfl) fitI ?_
        refine o_aload_n dX1_go_74 rfl rfl (by rfl) ?_
        refine o_dup dX1_go_75 rfl rfl ?_
        refine o_getI cl_X1_28 dX1_go_76 rfl (by decide) (by rfl) (by rfl) ?_
        refine o_aload_n dX1_go_79 rfl rfl (by rfl) ?_
        refine o_getI cl_X1_22 dX1_go_80 rfl (by decide) (by rfl) (by rfl) ?_
        refine o_if_ne (tgt := 93) dX1_go_83 (by decide) rfl (fun (c83 : ¬ ((mu 54 3) + 1) = 0) => ?_) (fun (c83 : ((mu 54 3) + 1) = 0) => ?_)
        · skip
          refine o_aload_n dX1_go_93 rfl rfl (by rfl) ?_
          refine o_getC (q := 9) cl_X1_9 dX1_go_94 rfl (by decide) (by rfl) (by rfl) ?_
          refine o_aload_n dX1_go_97 rfl rfl (by rfl) ?_
          refine o_getI cl_X1_22 dX1_go_98 rfl (by decide) (by rfl) (by rfl) ?_
          refine o_iconst (v := 1) dX1_go_101 rfl (by decide) ?_
          refine o_callV cs_X6_get cv_X1_45 (c_X6_get 9 6 3 tab9 _ (TOK.cg (by rfl) hO) ((mu 54 3) + 1) 1) hq.2.2.2 (Nat.le_of_ble_eq_true rfl) dX1_go_102 rfl (by decide) (by rfl) (by rfl) (by rfl) rfl rfl (Nat.le_of_ble_eq_true rfl) (fun r4 mu4 h4 => ?_)
          obtain ⟨em, h4⟩ := h4
          rw [em]
          rw [tget_cg tab9 hO (fun q h1 h2 => by simp [upF, upM, show q ≠ 54 by omega])] at h4
          refine o_iadd dX1_go_105 rfl ?_
          refine o_put cl_X1_28 cp_X1_5 dX1_go_106 rfl (by decide) (by rfl) (by rfl) fitI ?_
          refine o_aload_n dX1_go_109 rfl rfl (by rfl) ?_
          refine o_aload_n dX1_go_110 rfl rfl (by rfl) ?_
          refine o_getI cl_X1_22 dX1_go_111 rfl (by decide) (by rfl) (by rfl) ?_
          refine o_if_ne (tgt := 124) dX1_go_114 (by decide) rfl (fun (c114 : ¬ ((mu 54 3) + 1) = 0) => ?_) (fun (c114 : ((mu 54 3) + 1) = 0) => ?_)
          · skip
            refine o_aload_n dX1_go_124 rfl rfl (by rfl) ?_
            refine o_getC (q := 9) cl_X1_9 dX1_go_125 rfl (by decide) (by rfl) (by rfl) ?_
            refine o_aload_n dX1_go_128 rfl rfl (by rfl) ?_
            refine o_getI cl_X1_22 dX1_go_129 rfl (by decide) (by rfl) (by rfl) ?_
            refine o_iconst (v := 2) dX1_go_132 rfl (by decide) ?_
            refine o_callV cs_X6_get cv_X1_45 (c_X6_get 9 6 3 tab9 _ (TOK.cg (by rfl) hO) ((mu 54 3) + 1) 2) hq.2.2.2 (Nat.le_of_ble_eq_true rfl) dX1_go_133 rfl (by decide) (by rfl) (by rfl) (by rfl) rfl rfl (Nat.le_of_ble_eq_true rfl) (fun r5 mu5 h5 => ?_)
            obtain ⟨em, h5⟩ := h5
            rw [em]
            rw [tget_cg tab9 hO (fun q h1 h2 => by simp [upF, upM, show q ≠ 54 by omega])] at h5
            refine o_put cl_X1_31 cp_X1_6 dX1_go_136 rfl (by decide) (by rfl) (by rfl) fitI ?_
            refine o_aload_n dX1_go_139 rfl rfl (by rfl) ?_
            refine o_dup dX1_go_140 rfl rfl ?_
            refine o_getI cl_X1_34 dX1_go_141 rfl (by decide) (by rfl) (by rfl) ?_
            refine o_aload_n dX1_go_144 rfl rfl (by rfl) ?_
            refine o_getI cl_X1_28 dX1_go_145 rfl (by decide) (by rfl) (by rfl) ?_
            refine o_iadd dX1_go_148 rfl ?_
            refine o_put cl_X1_34 cp_X1_7 dX1_go_149 rfl (by decide) (by rfl) (by rfl) fitI ?_
            refine o_aload_n dX1_go_152 rfl rfl (by rfl) ?_
            refine o_dup dX1_go_153 rfl rfl ?_
            refine o_getI cl_X1_37 dX1_go_154 rfl (by decide) (by rfl) (by rfl) ?_
            refine o_aload_n dX1_go_157 rfl rfl (by rfl) ?_
            refine o_getI cl_X1_31 dX1_go_158 rfl (by decide) (by rfl) (by rfl) ?_
            refine o_iadd dX1_go_161 rfl ?_
            refine o_put cl_X1_37 cp_X1_8 dX1_go_162 rfl (by decide) (by rfl) (by rfl) fitI ?_
            exact o_vret hq dX1_go_165 ⟨fun q hq => by simp [upF, upM, hq], by apply v9 <;> simp [upF, upM, upd, hgoF, hgoU, hgoV, hmid, c4, c18, c61, c83, c114, ← h3, ← h4, ← h5]⟩
          · skip
            exact absurd c114 c83
        · skip
          refine o_aload_n dX1_go_86 rfl rfl (by rfl) ?_
          refine o_getI cl_X1_15 dX1_go_87 rfl (by decide) (by rfl) (by rfl) ?_
          refine o_goto (tgt := 105) dX1_go_90 (by decide) ?_
          refine o_iadd dX1_go_105 rfl ?_
          refine o_put cl_X1_28 cp_X1_5 dX1_go_106 rfl (by decide) (by rfl) (by rfl) fitI ?_
          refine o_aload_n dX1_go_109 rfl rfl (by rfl) ?_
          refine o_aload_n dX1_go_110 rfl rfl (by rfl) ?_
          refine o_getI cl_X1_22 dX1_go_111 rfl (by decide) (by rfl) (by rfl) ?_
          refine o_if_ne (tgt := 124) dX1_go_114 (by decide) rfl (fun (c114 : ¬ ((mu 54 3) + 1) = 0) => ?_) (fun (c114 : ((mu 54 3) + 1) = 0) => ?_)
          · skip
            exact absurd c83 c114
          · skip
            refine o_aload_n dX1_go_117 rfl rfl (by rfl) ?_
            refine o_getI cl_X1_19 dX1_go_118 rfl (by decide) (by rfl) (by rfl) ?_
            refine o_goto (tgt := 136) dX1_go_121 (by decide) ?_
            refine o_put cl_X1_31 cp_X1_6 dX1_go_136 rfl (by decide) (by rfl) (by rfl) fitI ?_
            refine o_aload_n dX1_go_139 rfl rfl (by rfl) ?_
            refine o_dup dX1_go_140 rfl rfl ?_
            refine o_getI cl_X1_34 dX1_go_141 rfl (by decide) (by rfl) (by rfl) ?_
            refine o_aload_n dX1_go_144 rfl rfl (by rfl) ?_
            refine o_getI cl_X1_28 dX1_go_145 rfl (by decide) (by rfl) (by rfl) ?_
            refine o_iadd dX1_go_148 rfl ?_
            refine o_put cl_X1_34 cp_X1_7 dX1_go_149 rfl (by decide) (by rfl) (by rfl) fitI ?_
            refine o_aload_n dX1_go_152 rfl rfl (by rfl) ?_
            refine o_dup dX1_go_153 rfl rfl ?_
            refine o_getI cl_X1_37 dX1_go_154 rfl (by decide) (by rfl) (by rfl) ?_
            refine o_aload_n dX1_go_157 rfl rfl (by rfl) ?_
            refine o_getI cl_X1_31 dX1_go_158 rfl (by decide) (by rfl) (by rfl) ?_
            refine o_iadd dX1_go_161 rfl ?_
            refine o_put cl_X1_37 cp_X1_8 dX1_go_162 rfl (by decide) (by rfl) (by rfl) fitI ?_
            exact o_vret hq dX1_go_165 ⟨fun q hq => by simp [upF, upM, hq], by rw [c83] at h3; apply v9 <;> simp [upF, upM, upd, hgoF, hgoU, hgoV, hmid, c4, c18, c61, c83, c114, ← h3]⟩
