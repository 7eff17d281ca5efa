/-! ===== the reference: swings, meets ===== -/
def rH (m : Mu) (j : Nat) : Int32 := if j = 6 then m 94 22 else if j = 7 then m 94 23 else if j = 8 then m 94 24 else if j = 9 then m 94 25 else if j = 10 then m 94 26 else if j = 11 then m 94 27 else if j = 12 then m 94 30 else if j = 14 then (if m 94 18 = -4 then -1 else m 94 18) else if j = 15 then m 94 20 else if j = 16 then m 94 21 else 0
theorem rH_cg {m m2 : Mu} (h : ∀ i, 18 ≤ i → i ≤ 30 → m2 94 i = m 94 i) : rH m2 = rH m := by
  funext j
  unfold rH
  rw [h 22 (by decide) (by decide), h 23 (by decide) (by decide), h 24 (by decide) (by decide), h 25 (by decide) (by decide), h 26 (by decide) (by decide), h 27 (by decide) (by decide), h 30 (by decide) (by decide), h 18 (by decide) (by decide), h 20 (by decide) (by decide), h 21 (by decide) (by decide)]
def SWG (mu m : Mu) (u : Int32) : Prop := (∀ q, q ≠ 94 → m q = mu q) ∧ (∀ j, (j < 21 ∨ 27 < j) → j ≠ 30 → m 94 j = mu 94 j) ∧ Hold (mu 95 0) (mu 94 28) (mu 94 29) u (rH mu) (rH m)
theorem SWG.taut {mu m : Mu} {u : Int32} {S i : Nat} (eS : sSq (mu 94 22 - mu 94 28) (mu 94 23 - mu 94 29) = nI S) (hS : S ≤ 1000000) (h1 : i * i ≤ S) (h2 : S < (i + 1) * (i + 1)) (hi : i ≤ 1000) (hc : ¬ sSq (mu 94 22 - mu 94 28) (mu 94 23 - mu 94 29) ≤ mu 95 0 * mu 95 0)
    (h0 : ∀ q, q ≠ 94 → m q = mu q) (h3 : ∀ j, (j < 21 ∨ 27 < j) → j ≠ 30 → m 94 j = mu 94 j)
    (e22 : m 94 22 = mu 94 28 + (mu 94 22 - mu 94 28) * mu 95 0 / nI i) (e23 : m 94 23 = mu 94 29 + (mu 94 23 - mu 94 29) * mu 95 0 / nI i)
    (e24 : m 94 24 = mu 94 24 + ((mu 94 22 - mu 94 28) * mu 95 0 / nI i - (mu 94 22 - mu 94 28))) (e25 : m 94 25 = mu 94 25 + ((mu 94 23 - mu 94 29) * mu 95 0 / nI i - (mu 94 23 - mu 94 29)))
    (e26 : m 94 26 = 0) (e27 : m 94 27 = (mu 94 24 + ((mu 94 22 - mu 94 28) * mu 95 0 / nI i - (mu 94 22 - mu 94 28)) - u) / 3) (e30 : m 94 30 = 1) (e21 : m 94 21 = mu 94 21 + 1) : SWG mu m u := by
  have hr : rt (sSq (mu 94 22 - mu 94 28) (mu 94 23 - mu 94 29)) = nI i := by
    rw [eS]
    refine rt_is ?_
    unfold IsRt
    rw [nI_toInt (by omega), nI_toInt (by omega)]
    exact ⟨by omega, by exact_mod_cast h1, by exact_mod_cast h2⟩
  have e18 : m 94 18 = mu 94 18 := h3 18 (by omega) (by decide)
  have e20 : m 94 20 = mu 94 20 := h3 20 (by omega) (by decide)
  refine ⟨h0, h3, ?_, Or.inl ⟨hc, ?_, ?_, ?_, ?_, e26, ?_, e30, e21⟩⟩
  · intro j a6 a7 a8 a9 a10 a11 a12 a16
    unfold rH
    simp only [if_neg a6, if_neg a7, if_neg a8, if_neg a9, if_neg a10, if_neg a11, if_neg a12, if_neg a16, e18, e20]
  · show m 94 22 = mu 94 28 + (mu 94 22 - mu 94 28) * mu 95 0 / rt (sSq (mu 94 22 - mu 94 28) (mu 94 23 - mu 94 29))
    rw [hr]; exact e22
  · show m 94 23 = mu 94 29 + (mu 94 23 - mu 94 29) * mu 95 0 / rt (sSq (mu 94 22 - mu 94 28) (mu 94 23 - mu 94 29))
    rw [hr]; exact e23
  · show m 94 24 = mu 94 24 + ((mu 94 22 - mu 94 28) * mu 95 0 / rt (sSq (mu 94 22 - mu 94 28) (mu 94 23 - mu 94 29)) - (mu 94 22 - mu 94 28))
    rw [hr]; exact e24
  · show m 94 25 = mu 94 25 + ((mu 94 23 - mu 94 29) * mu 95 0 / rt (sSq (mu 94 22 - mu 94 28) (mu 94 23 - mu 94 29)) - (mu 94 23 - mu 94 29))
    rw [hr]; exact e25
  · show m 94 27 = (mu 94 24 + ((mu 94 22 - mu 94 28) * mu 95 0 / rt (sSq (mu 94 22 - mu 94 28) (mu 94 23 - mu 94 29)) - (mu 94 22 - mu 94 28)) - u) / 3
    rw [hr]; exact e27
theorem SWG.slack {mu m : Mu} {u : Int32} (hc : sSq (mu 94 22 - mu 94 28) (mu 94 23 - mu 94 29) ≤ mu 95 0 * mu 95 0) (h0 : ∀ q, q ≠ 94 → m q = mu q) (h3 : ∀ j, j ≠ 26 → j ≠ 30 → m 94 j = mu 94 j) (e26 : m 94 26 = (mu 94 26 + mu 94 27) &&& 15) (e30 : m 94 30 = 0) : SWG mu m u := by
  refine ⟨h0, fun j a b => h3 j (by omega) b, ?_, Or.inr ⟨fun h => h hc, h3 22 (by decide) (by decide), h3 23 (by decide) (by decide), h3 24 (by decide) (by decide), h3 25 (by decide) (by decide), e26, h3 27 (by decide) (by decide), e30, h3 21 (by decide) (by decide)⟩⟩
  intro j a6 a7 a8 a9 a10 a11 a12 a16
  unfold rH
  simp only [if_neg a6, if_neg a7, if_neg a8, if_neg a9, if_neg a10, if_neg a11, if_neg a12, if_neg a16, h3 18 (by decide) (by decide), h3 20 (by decide) (by decide)]
set_option maxHeartbeats 4000000 in
set_option maxRecDepth 100000 in
theorem c_X9_swings (mu : Mu) (u : Int32) (S : Nat) (eS : sSq (mu 94 22 - mu 94 28) (mu 94 23 - mu 94 29) = nI S) (hS : S ≤ 1000000) (cd : Nat) (ecd : mu 95 0 = nI cd) (hcd : 1 ≤ cd ∧ cd ≤ 60) : ConV yX9_swings cX9_swings 7 1 [vC 94, vI u] mu (fun mu2 => SWG mu mu2 u) := by
  refine conV_of (own := RX9) (by decide) rfl (Nat.le_of_ble_eq_true rfl) (fun X g hq => ?_)
  show WA X g RX9 7 cX9_swings 0 [(0, vC 94), (1, vI u)] [] mu
  refine o_aload_n dX9_swings_0 rfl rfl (by rfl) ?_
  refine o_getI cl_X9_160 dX9_swings_1 rfl (by decide) (by rfl) (by rfl) ?_
  refine o_aload_n dX9_swings_4 rfl rfl (by rfl) ?_
  refine o_getI cl_X9_163 dX9_swings_5 rfl (by decide) (by rfl) (by rfl) ?_
  refine o_isub dX9_swings_8 rfl ?_
  refine o_istore_n (L' := [(0, vC 94), (1, vI u), (2, vI ((mu 94 22) - (mu 94 28)))]) dX9_swings_9 rfl rfl (by decide) (by rfl) (by rfl) ?_
  refine o_aload_n dX9_swings_10 rfl rfl (by rfl) ?_
  refine o_getI cl_X9_166 dX9_swings_11 rfl (by decide) (by rfl) (by rfl) ?_
  refine o_aload_n dX9_swings_14 rfl rfl (by rfl) ?_
  refine o_getI cl_X9_169 dX9_swings_15 rfl (by decide) (by rfl) (by rfl) ?_
  refine o_isub dX9_swings_18 rfl ?_
  refine o_istore_n (L' := [(0, vC 94), (1, vI u), (2, vI ((mu 94 22) - (mu 94 28))), (3, vI ((mu 94 23) - (mu 94 29)))]) dX9_swings_19 rfl rfl (by decide) (by rfl) (by rfl) ?_
  refine o_aload_n dX9_swings_20 rfl rfl (by rfl) ?_
  refine o_iload_n dX9_swings_21 rfl rfl (by rfl) ?_
  refine o_iload_n dX9_swings_22 rfl rfl (by rfl) ?_
  refine o_imul dX9_swings_23 rfl ?_
  refine o_iload_n dX9_swings_24 rfl rfl (by rfl) ?_
  refine o_iload_n dX9_swings_25 rfl rfl (by rfl) ?_
  refine o_imul dX9_swings_26 rfl ?_
  refine o_iadd dX9_swings_27 rfl ?_
  refine o_aload_n dX9_swings_28 rfl rfl (by rfl) ?_
  refine o_getC (q := 95) cl_X9_7 dX9_swings_29 rfl (by decide) (by rfl) (by rfl) ?_
  refine o_iconst (v := 0) dX9_swings_32 rfl (by decide) ?_
  refine o_iald dX9_swings_33 rfl (by decide) (by rfl) (by rfl) (vp_in_nI (n := 0) (by decide) (by decide)) ?_
  refine o_aload_n dX9_swings_34 rfl rfl (by rfl) ?_
  refine o_getC (q := 95) cl_X9_7 dX9_swings_35 rfl (by decide) (by rfl) (by rfl) ?_
  refine o_iconst (v := 0) dX9_swings_38 rfl (by decide) ?_
  refine o_iald dX9_swings_39 rfl (by decide) (by rfl) (by rfl) (vp_in_nI (n := 0) (by decide) (by decide)) ?_
  refine o_imul dX9_swings_40 rfl ?_
  refine o_icmp_le (tgt := 48) dX9_swings_41 (by decide) rfl (fun (c41 : ((((mu 94 22) - (mu 94 28)) * ((mu 94 22) - (mu 94 28))) + (((mu 94 23) - (mu 94 29)) * ((mu 94 23) - (mu 94 29)))) ≤ ((mu 95 0) * (mu 95 0))) => ?_) (fun (c41 : ¬ ((((mu 94 22) - (mu 94 28)) * ((mu 94 22) - (mu 94 28))) + (((mu 94 23) - (mu 94 29)) * ((mu 94 23) - (mu 94 29)))) ≤ ((mu 95 0) * (mu 95 0))) => ?_)
  · skip
    refine o_iconst (v := 0) dX9_swings_48 rfl (by decide) ?_
    refine o_put cl_X9_172 cp_X9_30 dX9_swings_49 rfl (by decide) (by rfl) (by rfl) fitI ?_
    refine o_aload_n dX9_swings_52 rfl rfl (by rfl) ?_
    refine o_getI cl_X9_172 dX9_swings_53 rfl (by decide) (by rfl) (by rfl) ?_
    refine o_iconst (v := 1) dX9_swings_56 rfl (by decide) ?_
    refine o_icmp_ne (tgt := 176) dX9_swings_57 (by decide) rfl (fun (c57 : ¬ (0 : Int32) = 1) => ?_) (fun (c57 : (0 : Int32) = 1) => ?_)
    · skip
      refine o_aload_n dX9_swings_176 rfl rfl (by rfl) ?_
      refine o_aload_n dX9_swings_177 rfl rfl (by rfl) ?_
      refine o_getI cl_X9_185 dX9_swings_178 rfl (by decide) (by rfl) (by rfl) ?_
      refine o_aload_n dX9_swings_181 rfl rfl (by rfl) ?_
      refine o_getI cl_X9_188 dX9_swings_182 rfl (by decide) (by rfl) (by rfl) ?_
      refine o_iadd dX9_swings_185 rfl ?_
      refine o_bipush (v := 15) dX9_swings_186 rfl (by decide) ?_
      refine o_iand dX9_swings_188 rfl ?_
      refine o_put cl_X9_185 cp_X9_26 dX9_swings_189 rfl (by decide) (by rfl) (by rfl) fitI ?_
      exact o_vret hq dX9_swings_192 (SWG.slack c41 (fun q hq9 => by simp only [upF_k hq9]) (fun j h1 h2 => by simp only [upF_i (show j ≠ 30 by omega), upF_i (show j ≠ 26 by omega)]) rfl rfl)
    · skip
      exact absurd c57 (by decide)
  · skip
    refine o_iconst (v := 1) dX9_swings_44 rfl (by decide) ?_
    refine o_goto (tgt := 49) dX9_swings_45 (by decide) ?_
    refine o_put cl_X9_172 cp_X9_30 dX9_swings_49 rfl (by decide) (by rfl) (by rfl) fitI ?_
    refine o_aload_n dX9_swings_52 rfl rfl (by rfl) ?_
    refine o_getI cl_X9_172 dX9_swings_53 rfl (by decide) (by rfl) (by rfl) ?_
    refine o_iconst (v := 1) dX9_swings_56 rfl (by decide) ?_
    refine o_icmp_ne (tgt := 176) dX9_swings_57 (by decide) rfl (fun (c57 : ¬ (1 : Int32) = 1) => ?_) (fun (c57 : (1 : Int32) = 1) => ?_)
    · skip
      exact absurd (by decide) c57
    · skip
      refine o_iload_n dX9_swings_60 rfl rfl (by rfl) ?_
      refine o_iload_n dX9_swings_61 rfl rfl (by rfl) ?_
      refine o_imul dX9_swings_62 rfl ?_
      refine o_iload_n dX9_swings_63 rfl rfl (by rfl) ?_
      refine o_iload_n dX9_swings_64 rfl rfl (by rfl) ?_
      refine o_imul dX9_swings_65 rfl ?_
      refine o_iadd dX9_swings_66 rfl ?_
      refine o_callS cs_X9_root ct_X9_175 (c_X9_root _ _ S eS hS) hq.2.2.2 (Nat.le_of_ble_eq_true rfl) dX9_swings_67 rfl rfl rfl (Nat.le_of_ble_eq_true rfl) (fun rt0 mR hR => ?_)
      obtain ⟨em, i, ei, hi1, hi2⟩ := hR
      rw [em]
      subst ei
      have hS1 : cd * cd < S := by rw [show (mu 94 22 - mu 94 28) * (mu 94 22 - mu 94 28) + (mu 94 23 - mu 94 29) * (mu 94 23 - mu 94 29) = nI S from eS, ecd, pk_mul] at c41; exact nI_dec c41 (by have := Nat.mul_le_mul hcd.2 hcd.2; omega) (by omega)
      have hi0 : ¬ i = 0 := fun e => by rw [e] at hi2; have := Nat.mul_le_mul hcd.1 hcd.1; omega
      have hi9 : i ≤ 1000 := Nat.le_of_not_lt (fun q => by have := Nat.mul_le_mul (show 1001 ≤ i from q) (show 1001 ≤ i from q); omega)
      have hnz : ¬ nI i = 0 := fun e => hi0 ((nI_eq (b := 0) (by omega) (by decide)).mp e)
      refine o_istore (L' := [(0, vC 94), (1, vI u), (2, vI ((mu 94 22) - (mu 94 28))), (3, vI ((mu 94 23) - (mu 94 29))), (4, vI (nI i))]) dX9_swings_70 rfl (by decide) (by rfl) (by rfl) ?_
      refine o_iload_n dX9_swings_72 rfl rfl (by rfl) ?_
      refine o_aload_n dX9_swings_73 rfl rfl (by rfl) ?_
      refine o_getC (q := 95) cl_X9_7 dX9_swings_74 rfl (by decide) (by rfl) (by rfl) ?_
      refine o_iconst (v := 0) dX9_swings_77 rfl (by decide) ?_
      refine o_iald dX9_swings_78 rfl (by decide) (by rfl) (by rfl) (vp_in_nI (n := 0) (by decide) (by decide)) ?_
      refine o_imul dX9_swings_79 rfl ?_
      refine o_iload dX9_swings_80 rfl (by rfl) ?_
      refine o_idiv dX9_swings_82 rfl hnz ?_
      refine o_istore (L' := [(0, vC 94), (1, vI u), (2, vI ((mu 94 22) - (mu 94 28))), (3, vI ((mu 94 23) - (mu 94 29))), (4, vI (nI i)), (5, vI ((((mu 94 22) - (mu 94 28)) * (mu 95 0)) / (nI i)))]) dX9_swings_83 rfl (by decide) (by rfl) (by rfl) ?_
      refine o_iload_n dX9_swings_85 rfl rfl (by rfl) ?_
      refine o_aload_n dX9_swings_86 rfl rfl (by rfl) ?_
      refine o_getC (q := 95) cl_X9_7 dX9_swings_87 rfl (by decide) (by rfl) (by rfl) ?_
      refine o_iconst (v := 0) dX9_swings_90 rfl (by decide) ?_
      refine o_iald dX9_swings_91 rfl (by decide) (by rfl) (by rfl) (vp_in_nI (n := 0) (by decide) (by decide)) ?_
      refine o_imul dX9_swings_92 rfl ?_
      refine o_iload dX9_swings_93 rfl (by rfl) ?_
      refine o_idiv dX9_swings_95 rfl hnz ?_
      refine o_istore (L' := [(0, vC 94), (1, vI u), (2, vI ((mu 94 22) - (mu 94 28))), (3, vI ((mu 94 23) - (mu 94 29))), (4, vI (nI i)), (5, vI ((((mu 94 22) - (mu 94 28)) * (mu 95 0)) / (nI i))), (6, vI ((((mu 94 23) - (mu 94 29)) * (mu 95 0)) / (nI i)))]) dX9_swings_96 rfl (by decide) (by rfl) (by rfl) ?_
      refine o_aload_n dX9_swings_98 rfl rfl (by rfl) ?_
      refine o_aload_n dX9_swings_99 rfl rfl (by rfl) ?_
      refine o_getI cl_X9_163 dX9_swings_100 rfl (by decide) (by rfl) (by rfl) ?_
      refine o_iload dX9_swings_103 rfl (by rfl) ?_
      refine o_iadd dX9_swings_105 rfl ?_
      refine o_put cl_X9_160 cp_X9_22 dX9_swings_106 rfl (by decide) (by rfl) (by rfl) fitI ?_
      refine o_aload_n dX9_swings_109 rfl rfl (by rfl) ?_
      refine o_aload_n dX9_swings_110 rfl rfl (by rfl) ?_
      refine o_getI cl_X9_169 dX9_swings_111 rfl (by decide) (by rfl) (by rfl) ?_
      refine o_iload dX9_swings_114 rfl (by rfl) ?_
      refine o_iadd dX9_swings_116 rfl ?_
      refine o_put cl_X9_166 cp_X9_23 dX9_swings_117 rfl (by decide) (by rfl) (by rfl) fitI ?_
      refine o_aload_n dX9_swings_120 rfl rfl (by rfl) ?_
      refine o_dup dX9_swings_121 rfl rfl ?_
      refine o_getI cl_X9_179 dX9_swings_122 rfl (by decide) (by rfl) (by rfl) ?_
      refine o_iload dX9_swings_125 rfl (by rfl) ?_
      refine o_iload_n dX9_swings_127 rfl rfl (by rfl) ?_
      refine o_isub dX9_swings_128 rfl ?_
      refine o_iadd dX9_swings_129 rfl ?_
      refine o_put cl_X9_179 cp_X9_24 dX9_swings_130 rfl (by decide) (by rfl) (by rfl) fitI ?_
      refine o_aload_n dX9_swings_133 rfl rfl (by rfl) ?_
      refine o_dup dX9_swings_134 rfl rfl ?_
      refine o_getI cl_X9_182 dX9_swings_135 rfl (by decide) (by rfl) (by rfl) ?_
      refine o_iload dX9_swings_138 rfl (by rfl) ?_
      refine o_iload_n dX9_swings_140 rfl rfl (by rfl) ?_
      refine o_isub dX9_swings_141 rfl ?_
      refine o_iadd dX9_swings_142 rfl ?_
      refine o_put cl_X9_182 cp_X9_25 dX9_swings_143 rfl (by decide) (by rfl) (by rfl) fitI ?_
      refine o_aload_n dX9_swings_146 rfl rfl (by rfl) ?_
      refine o_iconst (v := 0) dX9_swings_147 rfl (by decide) ?_
      refine o_put cl_X9_185 cp_X9_26 dX9_swings_148 rfl (by decide) (by rfl) (by rfl) fitI ?_
      refine o_aload_n dX9_swings_151 rfl rfl (by rfl) ?_
      refine o_aload_n dX9_swings_152 rfl rfl (by rfl) ?_
      refine o_getI cl_X9_179 dX9_swings_153 rfl (by decide) (by rfl) (by rfl) ?_
      refine o_iload_n dX9_swings_156 rfl rfl (by rfl) ?_
      refine o_isub dX9_swings_157 rfl ?_
      refine o_iconst (v := 3) dX9_swings_158 rfl (by decide) ?_
      refine o_idiv dX9_swings_159 rfl (by decide) ?_
      refine o_put cl_X9_188 cp_X9_27 dX9_swings_160 rfl (by decide) (by rfl) (by rfl) fitI ?_
      refine o_aload_n dX9_swings_163 rfl rfl (by rfl) ?_
      refine o_dup dX9_swings_164 rfl rfl ?_
      refine o_getI cl_X9_191 dX9_swings_165 rfl (by decide) (by rfl) (by rfl) ?_
      refine o_iconst (v := 1) dX9_swings_168 rfl (by decide) ?_
      refine o_iadd dX9_swings_169 rfl ?_
      refine o_put cl_X9_191 cp_X9_21 dX9_swings_170 rfl (by decide) (by rfl) (by rfl) fitI ?_
      refine o_goto (tgt := 192) dX9_swings_173 (by decide) ?_
      exact o_vret hq dX9_swings_192 (SWG.taut eS hS hi1 hi2 hi9 c41 (fun q hq9 => by simp only [upF_k hq9]) (fun j h1 h2 => by simp only [upF_i (show j ≠ 30 by omega), upF_i (show j ≠ 22 by omega), upF_i (show j ≠ 23 by omega), upF_i (show j ≠ 24 by omega), upF_i (show j ≠ 25 by omega), upF_i (show j ≠ 26 by omega), upF_i (show j ≠ 27 by omega), upF_i (show j ≠ 21 by omega)]) rfl rfl rfl rfl rfl rfl rfl rfl)
/-- the cups from c on, looked through from the last -/
def MT (P : Nat → Prop) (nc c : Nat) (met : Int32) : Prop := (met = -4 ∧ ∀ i, c ≤ i → i < nc → ¬ P i) ∨ ∃ i, c ≤ i ∧ i < nc ∧ met = nI i ∧ P i ∧ ∀ j, c ≤ j → j < i → ¬ P j
theorem MT.yes {P : Nat → Prop} {nc c : Nat} (hc : c < nc) (h : P c) : MT P nc c (nI c) := Or.inr ⟨c, Nat.le_refl _, hc, rfl, h, fun j _ _ => by omega⟩
theorem MT.no {P : Nat → Prop} {nc c : Nat} {met : Int32} (h : MT P nc (c + 1) met) (hn : ¬ P c) : MT P nc c met := by
  rcases h with ⟨h1, h2⟩ | ⟨i, h1, h2, h3, h4, h5⟩
  · refine Or.inl ⟨h1, fun i a b => ?_⟩
    by_cases e : i = c
    · rw [e]; exact hn
    · exact h2 i (by omega) b
  · refine Or.inr ⟨i, by omega, h2, h3, h4, fun j a b => ?_⟩
    by_cases e : j = c
    · rw [e]; exact hn
    · exact h5 j (by omega) b
theorem MT.fst {P : Nat → Prop} {nc : Nat} {met : Int32} (h : MT P nc 0 met) (hn : nc ≤ 4) : (met = -4 ∧ fstc P nc = -1) ∨ ∃ i, i < nc ∧ met = nI i ∧ fstc P nc = nI i := by
  rcases h with ⟨h1, h2⟩ | ⟨i, h1, h2, h3, h4, h5⟩
  · exact Or.inl ⟨h1, fstc_is (Or.inr ⟨rfl, fun i hi => h2 i (by omega) hi⟩)⟩
  · exact Or.inr ⟨i, h2, h3, fstc_is (Or.inl ⟨i, h2, rfl, h4, fun j hj => h5 j (by omega) hj⟩)⟩
def MEET (mu m : Mu) (C : Nat → Vc) (nc : Nat) (ay u stp r : Int32) : Prop := ((¬ mu 94 17 = 0 ∨ metC C nc ay (mu 94 22 - mu 94 28) (mu 94 23 - mu 94 29) = -1) ∧ r = 0 ∧ m = mu) ∨ (mu 94 17 = 0 ∧ ∃ i, i < nc ∧ metC C nc ay (mu 94 22 - mu 94 28) (mu 94 23 - mu 94 29) = nI i ∧ Land (mu 95 2) (C i) (mu 94 28) u (nI i) (rH mu) (rH m) ∧ (∀ q, q ≠ 94 → m q = mu q) ∧ (∀ j, j ≠ 18 → j ≠ 19 → j ≠ 20 → j ≠ 25 → m 94 j = mu 94 j) ∧ ((r = 1 ∧ m 94 18 = nI i ∧ m 94 19 = stp) ∨ (r = 0 ∧ m 94 18 = mu 94 18 ∧ m 94 19 = mu 94 19)))
theorem MEET.yes {mu : Mu} {C : Nat → Vc} {nc i : Nat} {ay u stp : Int32} (hn : mu 94 17 = 0) (hi : i < nc) (h4 : nc ≤ 4) (hm : metC C nc ay (mu 94 22 - mu 94 28) (mu 94 23 - mu 94 29) = nI i) (hs : sft (mu 95 2) (C i) (mu 94 28) u (rH mu)) : MEET mu (upF (upF mu 94 18 (nI i)) 94 19 stp) C nc ay u stp 1 := by
  refine Or.inr ⟨hn, i, hi, hm, ⟨fun j a9 a14 a15 => ?_, Or.inl ⟨hs, rfl, ?_, rfl⟩⟩, fun q hq => by rw [upF_k hq, upF_k hq], fun j a b _ _ => by rw [upF_i b, upF_i a], Or.inl ⟨rfl, rfl, rfl⟩⟩
  · have e : ∀ x, x ≠ 18 → x ≠ 19 → upF (upF mu 94 18 (nI i)) 94 19 stp 94 x = mu 94 x := fun x a b => by rw [upF_i b, upF_i a]
    unfold rH
    simp only [if_neg a9, if_neg a14, if_neg a15, e 22 (by decide) (by decide), e 23 (by decide) (by decide), e 24 (by decide) (by decide), e 26 (by decide) (by decide), e 27 (by decide) (by decide), e 30 (by decide) (by decide), e 21 (by decide) (by decide)]
  · show (if nI i = -4 then -1 else nI i) = nI i
    rw [if_neg]
    intro e
    have := (i_eq _ _).mp e
    rw [nI_toInt (by omega)] at this
    have e1 : (-4 : Int32).toInt = -4 := rfl
    omega
theorem MEET.rim {mu : Mu} {C : Nat → Vc} {nc i : Nat} {ay u stp : Int32} (hn : mu 94 17 = 0) (hi : i < nc) (hm : metC C nc ay (mu 94 22 - mu 94 28) (mu 94 23 - mu 94 29) = nI i) (hs : ¬ sft (mu 95 2) (C i) (mu 94 28) u (rH mu)) : MEET mu (upF (upF mu 94 20 (mu 94 20 + 1)) 94 25 (ab (mu 94 25) / 2)) C nc ay u stp 0 := by
  refine Or.inr ⟨hn, i, hi, hm, ⟨fun j a9 a14 a15 => ?_, Or.inr ⟨hs, rfl, rfl, rfl⟩⟩, fun q hq => by rw [upF_k hq, upF_k hq], fun j _ _ a b => by rw [upF_i b, upF_i a], Or.inr ⟨rfl, rfl, rfl⟩⟩
  have e : ∀ x, x ≠ 20 → x ≠ 25 → upF (upF mu 94 20 (mu 94 20 + 1)) 94 25 (ab (mu 94 25) / 2) 94 x = mu 94 x := fun x a b => by rw [upF_i b, upF_i a]
  unfold rH
  simp only [if_neg a9, if_neg a14, if_neg a15, e 22 (by decide) (by decide), e 23 (by decide) (by decide), e 24 (by decide) (by decide), e 26 (by decide) (by decide), e 27 (by decide) (by decide), e 30 (by decide) (by decide), e 21 (by decide) (by decide)]
theorem nI_nn {i : Nat} (h : i < 2 ^ 31) : (0 : Int32) ≤ nI i := by rw [i_le, nI_toInt h]; have e : (0 : Int32).toInt = 0 := rfl; omega
theorem upr_no {t : Int32} (h1 : ¬ t = 15) (h2 : (2 : Int32) ≤ t) (h : upr t) : False := by
  rcases h with h | h | h
  · exact h1 h
  · rw [h] at h2; exact absurd h2 (by decide)
  · rw [h] at h2; exact absurd h2 (by decide)
set_option maxHeartbeats 4000000 in
set_option maxRecDepth 100000 in
theorem c_X9_meets (mu : Mu) (C : Nat → Vc) (nc : Nat) (hnc : nc ≤ 4) (enc : mu 94 1 = nI nc) (hC : ∀ i, i < nc → ∀ j, j < 5 → mu 96 (5 * i + j) = C i j) (h26 : mu 94 26 < 2 → mu 94 26 = 0 ∨ mu 94 26 = 1) (ay u stp : Int32) : Con yX9_meets cX9_meets 9 (some .boolean) 1 [vC 94, vI ay, vI u, vI stp] mu (fun r mu2 => MEET mu mu2 C nc ay u stp r) := by
  refine con_of (own := RX9) (by decide) rfl (Nat.le_of_ble_eq_true rfl) (fun X g hq => ?_)
  show WA X g RX9 9 cX9_meets 0 [(0, vC 94), (1, vI ay), (2, vI u), (3, vI stp)] [] mu
  refine o_aload_n dX9_meets_0 rfl rfl (by rfl) ?_
  refine o_getI cl_X9_160 dX9_meets_1 rfl (by decide) (by rfl) (by rfl) ?_
  refine o_aload_n dX9_meets_4 rfl rfl (by rfl) ?_
  refine o_getI cl_X9_163 dX9_meets_5 rfl (by decide) (by rfl) (by rfl) ?_
  refine o_isub dX9_meets_8 rfl ?_
  refine o_istore (L' := [(0, vC 94), (1, vI ay), (2, vI u), (3, vI stp), (4, vI ((mu 94 22) - (mu 94 28)))]) dX9_meets_9 rfl (by decide) (by rfl) (by rfl) ?_
  refine o_aload_n dX9_meets_11 rfl rfl (by rfl) ?_
  refine o_getI cl_X9_166 dX9_meets_12 rfl (by decide) (by rfl) (by rfl) ?_
  refine o_aload_n dX9_meets_15 rfl rfl (by rfl) ?_
  refine o_getI cl_X9_169 dX9_meets_16 rfl (by decide) (by rfl) (by rfl) ?_
  refine o_isub dX9_meets_19 rfl ?_
  refine o_istore (L' := [(0, vC 94), (1, vI ay), (2, vI u), (3, vI stp), (4, vI ((mu 94 22) - (mu 94 28))), (5, vI ((mu 94 23) - (mu 94 29)))]) dX9_meets_20 rfl (by decide) (by rfl) (by rfl) ?_
  refine o_bipush (v := (-4)) dX9_meets_22 rfl (by decide) ?_
  refine o_istore (L' := [(0, vC 94), (1, vI ay), (2, vI u), (3, vI stp), (4, vI ((mu 94 22) - (mu 94 28))), (5, vI ((mu 94 23) - (mu 94 29))), (6, vI ((-4)))]) dX9_meets_24 rfl (by decide) (by rfl) (by rfl) ?_
  refine o_aload_n dX9_meets_26 rfl rfl (by rfl) ?_
  refine o_getI cl_X9_68 dX9_meets_27 rfl (by decide) (by rfl) (by rfl) ?_
  refine o_iconst (v := 1) dX9_meets_30 rfl (by decide) ?_
  refine o_isub dX9_meets_31 rfl ?_
  refine o_istore (L' := [(0, vC 94), (1, vI ay), (2, vI u), (3, vI stp), (4, vI ((mu 94 22) - (mu 94 28))), (5, vI ((mu 94 23) - (mu 94 29))), (6, vI ((-4))), (7, vI ((mu 94 1) - 1))]) dX9_meets_32 rfl (by decide) (by rfl) (by rfl) ?_
  have LP34 : ∀ (nLP34 : Nat) (t : Nat) (met : Int32) , (t ≤ nc) → (MT (cupIn C ay (mu 94 22 - mu 94 28) (mu 94 23 - mu 94 29)) nc t met) → (¬ mu 94 17 = 0 → met = -4) → (t < nLP34) → WA X g RX9 9 cX9_meets 34 [(0, vC 94), (1, vI ay), (2, vI u), (3, vI stp), (4, vI ((mu 94 22) - (mu 94 28))), (5, vI ((mu 94 23) - (mu 94 29))), (6, vI met), (7, vI (nI t - 1))] [] mu := by
    intro nLP34
    induction nLP34 with
    | zero =>
      intro t met ht hM hn hm
      exact absurd hm (by omega)
    | succ nLP34 ihLP34 =>
      intro t met ht hM hn hm
      refine o_iload dX9_meets_34 rfl (by rfl) ?_
      refine o_if_lt (tgt := 118) dX9_meets_36 (by decide) rfl (fun (c36 : (nI t - 1) < 0) => ?_) (fun (c36 : ¬ (nI t - 1) < 0) => ?_)
      · skip
        have ht0 : t = 0 := by by_cases h9 : t = 0; exact h9; exact absurd c36 (by rw [show nI t - 1 = nI (t - 1) from pk_sub (b := 1) (by omega)]; exact nI_nlt (b := 0) (by omega) (by omega))
        rw [ht0] at hM
        refine o_iload dX9_meets_118 rfl (by rfl) ?_
        refine o_if_ge (tgt := 125) dX9_meets_120 (by decide) rfl (fun (c120 : 0 ≤ met) => ?_) (fun (c120 : ¬ 0 ≤ met) => ?_)
        · skip
          have hn17 : mu 94 17 = 0 := Decidable.not_not.mp (fun h9 => by rw [hn h9] at c120; exact absurd c120 (by decide))
          have hMF := hM.fst hnc
          obtain ⟨i, hi, ei, hfi⟩ := hMF.resolve_left (fun h9 => by rw [h9.1] at c120; exact absurd c120 (by decide))
          subst ei
          have hc0 : mu 96 (5 * nI i).toNatClampNeg = C i 0 := by rw [show (5 * nI i).toNatClampNeg = 5 * i + 0 from ixm (a := 5) (by omega)]; exact hC i hi 0 (by decide)
          have hc2 : mu 96 (5 * nI i + 2).toNatClampNeg = C i 2 := by rw [show (5 * nI i + 2).toNatClampNeg = 5 * i + 2 from ixl (a := 5) (t := 2) (by omega)]; exact hC i hi 2 (by decide)
          have hc4 : mu 96 (5 * nI i + 4).toNatClampNeg = C i 4 := by rw [show (5 * nI i + 4).toNatClampNeg = 5 * i + 4 from ixl (a := 5) (t := 4) (by omega)]; exact hC i hi 4 (by decide)
          refine o_aload_n dX9_meets_125 rfl rfl (by rfl) ?_
          refine o_getI cl_X9_185 dX9_meets_126 rfl (by decide) (by rfl) (by rfl) ?_
          refine o_bipush (v := 15) dX9_meets_129 rfl (by decide) ?_
          refine o_icmp_eq (tgt := 142) dX9_meets_131 (by decide) rfl (fun (c131 : (mu 94 26) = 15) => ?_) (fun (c131 : ¬ (mu 94 26) = 15) => ?_)
          · skip
            refine o_iconst (v := 1) dX9_meets_142 rfl (by decide) ?_
            refine o_goto (tgt := 147) dX9_meets_143 (by decide) ?_
            refine o_istore (L' := [(0, vC 94), (1, vI ay), (2, vI u), (3, vI stp), (4, vI ((mu 94 22) - (mu 94 28))), (5, vI ((mu 94 23) - (mu 94 29))), (6, vI (nI i)), (7, vI 1)]) dX9_meets_147 rfl (by decide) (by rfl) (by rfl) ?_
            refine o_aload_n dX9_meets_149 rfl rfl (by rfl) ?_
            refine o_getI cl_X9_179 dX9_meets_150 rfl (by decide) (by rfl) (by rfl) ?_
            refine o_iload_n dX9_meets_153 rfl rfl (by rfl) ?_
            refine o_isub dX9_meets_154 rfl ?_
            refine o_callS cs_X9_size ct_X9_197 (c_X9_size _ _) hq.2.2.2 (Nat.le_of_ble_eq_true rfl) dX9_meets_155 rfl rfl rfl (Nat.le_of_ble_eq_true rfl) (fun rz155 mu1 hz155 => ?_)
            obtain ⟨em, hz155⟩ := hz155
            rw [em]
            subst hz155
            refine o_aload_n dX9_meets_158 rfl rfl (by rfl) ?_
            refine o_getC (q := 95) cl_X9_7 dX9_meets_159 rfl (by decide) (by rfl) (by rfl) ?_
            refine o_iconst (v := 2) dX9_meets_162 rfl (by decide) ?_
            refine o_iald dX9_meets_163 rfl (by decide) (by rfl) (by rfl) (vp_in_nI (n := 2) (by decide) (by decide)) ?_
            refine o_icmp_gt (tgt := 171) dX9_meets_164 (by decide) rfl (fun (c164 : (mu 95 2) < (ab ((mu 94 24) - u))) => ?_) (fun (c164 : ¬ (mu 95 2) < (ab ((mu 94 24) - u))) => ?_)
            · skip
              refine o_iconst (v := 0) dX9_meets_171 rfl (by decide) ?_
              refine o_istore (L' := [(0, vC 94), (1, vI ay), (2, vI u), (3, vI stp), (4, vI ((mu 94 22) - (mu 94 28))), (5, vI ((mu 94 23) - (mu 94 29))), (6, vI (nI i)), (7, vI 1), (8, vI 0)]) dX9_meets_172 rfl (by decide) (by rfl) (by rfl) ?_
              refine o_iload dX9_meets_174 rfl (by rfl) ?_
              refine o_aload_n dX9_meets_176 rfl rfl (by rfl) ?_
              refine o_getC (q := 96) cl_X9_13 dX9_meets_177 rfl (by decide) (by rfl) (by rfl) ?_
              refine o_iconst (v := 5) dX9_meets_180 rfl (by decide) ?_
              refine o_iload dX9_meets_181 rfl (by rfl) ?_
              refine o_imul dX9_meets_183 rfl ?_
              refine o_iald dX9_meets_184 rfl (by decide) (by rfl) (by rfl) (ixc (a := 5) (by omega) (by decide)) ?_
              refine o_isub dX9_meets_185 rfl ?_
              refine o_callS cs_X9_size ct_X9_197 (c_X9_size _ _) hq.2.2.2 (Nat.le_of_ble_eq_true rfl) dX9_meets_186 rfl rfl rfl (Nat.le_of_ble_eq_true rfl) (fun rz186 mu2 hz186 => ?_)
              obtain ⟨em, hz186⟩ := hz186
              rw [em]
              subst hz186
              refine o_aload_n dX9_meets_189 rfl rfl (by rfl) ?_
              refine o_getC (q := 96) cl_X9_13 dX9_meets_190 rfl (by decide) (by rfl) (by rfl) ?_
              refine o_iconst (v := 5) dX9_meets_193 rfl (by decide) ?_
              refine o_iload dX9_meets_194 rfl (by rfl) ?_
              refine o_imul dX9_meets_196 rfl ?_
              refine o_iconst (v := 2) dX9_meets_197 rfl (by decide) ?_
              refine o_iadd dX9_meets_198 rfl ?_
              refine o_iald dX9_meets_199 rfl (by decide) (by rfl) (by rfl) (ixb (a := 5) (t := 2) (by omega) (by decide)) ?_
              refine o_icmp_gt (tgt := 240) dX9_meets_200 (by decide) rfl (fun (c200 : (mu 96 (5 * nI i + 2).toNatClampNeg) < (ab (((mu 94 22) - (mu 94 28)) - (mu 96 (5 * nI i).toNatClampNeg)))) => ?_) (fun (c200 : ¬ (mu 96 (5 * nI i + 2).toNatClampNeg) < (ab (((mu 94 22) - (mu 94 28)) - (mu 96 (5 * nI i).toNatClampNeg)))) => ?_)
              · skip
                refine o_aload_n dX9_meets_240 rfl rfl (by rfl) ?_
                refine o_dup dX9_meets_241 rfl rfl ?_
                refine o_getI cl_X9_206 dX9_meets_242 rfl (by decide) (by rfl) (by rfl) ?_
                refine o_iconst (v := 1) dX9_meets_245 rfl (by decide) ?_
                refine o_iadd dX9_meets_246 rfl ?_
                refine o_put cl_X9_206 cp_X9_20 dX9_meets_247 rfl (by decide) (by rfl) (by rfl) fitI ?_
                refine o_aload_n dX9_meets_250 rfl rfl (by rfl) ?_
                refine o_aload_n dX9_meets_251 rfl rfl (by rfl) ?_
                refine o_getI cl_X9_182 dX9_meets_252 rfl (by decide) (by rfl) (by rfl) ?_
                refine o_callS cs_X9_size ct_X9_197 (c_X9_size _ _) hq.2.2.2 (Nat.le_of_ble_eq_true rfl) dX9_meets_255 rfl rfl rfl (Nat.le_of_ble_eq_true rfl) (fun rz255 mu3 hz255 => ?_)
                obtain ⟨em, hz255⟩ := hz255
                rw [em]
                subst hz255
                refine o_iconst (v := 2) dX9_meets_258 rfl (by decide) ?_
                refine o_idiv dX9_meets_259 rfl (by decide) ?_
                refine o_put cl_X9_182 cp_X9_25 dX9_meets_260 rfl (by decide) (by rfl) (by rfl) fitI ?_
                refine o_iconst (v := 0) dX9_meets_263 rfl (by decide) ?_
                exact o_zret hq dX9_meets_264 (Or.inl rfl) (MEET.rim hn17 hi hfi (fun h9 => h9.1 (by rw [← hc2, ← hc0]; exact c200)))
              · skip
                refine o_iload dX9_meets_203 rfl (by rfl) ?_
                refine o_if_eq (tgt := 240) dX9_meets_205 (by decide) rfl (fun (c205 : (0 : Int32) = 0) => ?_) (fun (c205 : ¬ (0 : Int32) = 0) => ?_)
                · skip
                  refine o_aload_n dX9_meets_240 rfl rfl (by rfl) ?_
                  refine o_dup dX9_meets_241 rfl rfl ?_
                  refine o_getI cl_X9_206 dX9_meets_242 rfl (by decide) (by rfl) (by rfl) ?_
                  refine o_iconst (v := 1) dX9_meets_245 rfl (by decide) ?_
                  refine o_iadd dX9_meets_246 rfl ?_
                  refine o_put cl_X9_206 cp_X9_20 dX9_meets_247 rfl (by decide) (by rfl) (by rfl) fitI ?_
                  refine o_aload_n dX9_meets_250 rfl rfl (by rfl) ?_
                  refine o_aload_n dX9_meets_251 rfl rfl (by rfl) ?_
                  refine o_getI cl_X9_182 dX9_meets_252 rfl (by decide) (by rfl) (by rfl) ?_
                  refine o_callS cs_X9_size ct_X9_197 (c_X9_size _ _) hq.2.2.2 (Nat.le_of_ble_eq_true rfl) dX9_meets_255 rfl rfl rfl (Nat.le_of_ble_eq_true rfl) (fun rz255 mu4 hz255 => ?_)
                  obtain ⟨em, hz255⟩ := hz255
                  rw [em]
                  subst hz255
                  refine o_iconst (v := 2) dX9_meets_258 rfl (by decide) ?_
                  refine o_idiv dX9_meets_259 rfl (by decide) ?_
                  refine o_put cl_X9_182 cp_X9_25 dX9_meets_260 rfl (by decide) (by rfl) (by rfl) fitI ?_
                  refine o_iconst (v := 0) dX9_meets_263 rfl (by decide) ?_
                  exact o_zret hq dX9_meets_264 (Or.inl rfl) (MEET.rim hn17 hi hfi (fun h9 => h9.2.1 c164))
                · skip
                  exact absurd (by decide) c205
            · skip
              refine o_iconst (v := 1) dX9_meets_167 rfl (by decide) ?_
              refine o_goto (tgt := 172) dX9_meets_168 (by decide) ?_
              refine o_istore (L' := [(0, vC 94), (1, vI ay), (2, vI u), (3, vI stp), (4, vI ((mu 94 22) - (mu 94 28))), (5, vI ((mu 94 23) - (mu 94 29))), (6, vI (nI i)), (7, vI 1), (8, vI 1)]) dX9_meets_172 rfl (by decide) (by rfl) (by rfl) ?_
              refine o_iload dX9_meets_174 rfl (by rfl) ?_
              refine o_aload_n dX9_meets_176 rfl rfl (by rfl) ?_
              refine o_getC (q := 96) cl_X9_13 dX9_meets_177 rfl (by decide) (by rfl) (by rfl) ?_
              refine o_iconst (v := 5) dX9_meets_180 rfl (by decide) ?_
              refine o_iload dX9_meets_181 rfl (by rfl) ?_
              refine o_imul dX9_meets_183 rfl ?_
              refine o_iald dX9_meets_184 rfl (by decide) (by rfl) (by rfl) (ixc (a := 5) (by omega) (by decide)) ?_
              refine o_isub dX9_meets_185 rfl ?_
              refine o_callS cs_X9_size ct_X9_197 (c_X9_size _ _) hq.2.2.2 (Nat.le_of_ble_eq_true rfl) dX9_meets_186 rfl rfl rfl (Nat.le_of_ble_eq_true rfl) (fun rz186 mu5 hz186 => ?_)
              obtain ⟨em, hz186⟩ := hz186
              rw [em]
              subst hz186
              refine o_aload_n dX9_meets_189 rfl rfl (by rfl) ?_
              refine o_getC (q := 96) cl_X9_13 dX9_meets_190 rfl (by decide) (by rfl) (by rfl) ?_
              refine o_iconst (v := 5) dX9_meets_193 rfl (by decide) ?_
              refine o_iload dX9_meets_194 rfl (by rfl) ?_
              refine o_imul dX9_meets_196 rfl ?_
              refine o_iconst (v := 2) dX9_meets_197 rfl (by decide) ?_
              refine o_iadd dX9_meets_198 rfl ?_
              refine o_iald dX9_meets_199 rfl (by decide) (by rfl) (by rfl) (ixb (a := 5) (t := 2) (by omega) (by decide)) ?_
              refine o_icmp_gt (tgt := 240) dX9_meets_200 (by decide) rfl (fun (c200 : (mu 96 (5 * nI i + 2).toNatClampNeg) < (ab (((mu 94 22) - (mu 94 28)) - (mu 96 (5 * nI i).toNatClampNeg)))) => ?_) (fun (c200 : ¬ (mu 96 (5 * nI i + 2).toNatClampNeg) < (ab (((mu 94 22) - (mu 94 28)) - (mu 96 (5 * nI i).toNatClampNeg)))) => ?_)
              · skip
                refine o_aload_n dX9_meets_240 rfl rfl (by rfl) ?_
                refine o_dup dX9_meets_241 rfl rfl ?_
                refine o_getI cl_X9_206 dX9_meets_242 rfl (by decide) (by rfl) (by rfl) ?_
                refine o_iconst (v := 1) dX9_meets_245 rfl (by decide) ?_
                refine o_iadd dX9_meets_246 rfl ?_
                refine o_put cl_X9_206 cp_X9_20 dX9_meets_247 rfl (by decide) (by rfl) (by rfl) fitI ?_
                refine o_aload_n dX9_meets_250 rfl rfl (by rfl) ?_
                refine o_aload_n dX9_meets_251 rfl rfl (by rfl) ?_
                refine o_getI cl_X9_182 dX9_meets_252 rfl (by decide) (by rfl) (by rfl) ?_
                refine o_callS cs_X9_size ct_X9_197 (c_X9_size _ _) hq.2.2.2 (Nat.le_of_ble_eq_true rfl) dX9_meets_255 rfl rfl rfl (Nat.le_of_ble_eq_true rfl) (fun rz255 mu6 hz255 => ?_)
                obtain ⟨em, hz255⟩ := hz255
                rw [em]
                subst hz255
                refine o_iconst (v := 2) dX9_meets_258 rfl (by decide) ?_
                refine o_idiv dX9_meets_259 rfl (by decide) ?_
                refine o_put cl_X9_182 cp_X9_25 dX9_meets_260 rfl (by decide) (by rfl) (by rfl) fitI ?_
                refine o_iconst (v := 0) dX9_meets_263 rfl (by decide) ?_
                exact o_zret hq dX9_meets_264 (Or.inl rfl) (MEET.rim hn17 hi hfi (fun h9 => h9.1 (by rw [← hc2, ← hc0]; exact c200)))
              · skip
                refine o_iload dX9_meets_203 rfl (by rfl) ?_
                refine o_if_eq (tgt := 240) dX9_meets_205 (by decide) rfl (fun (c205 : (1 : Int32) = 0) => ?_) (fun (c205 : ¬ (1 : Int32) = 0) => ?_)
                · skip
                  exact absurd c205 (by decide)
                · skip
                  refine o_aload_n dX9_meets_208 rfl rfl (by rfl) ?_
                  refine o_getC (q := 96) cl_X9_13 dX9_meets_209 rfl (by decide) (by rfl) (by rfl) ?_
                  refine o_iconst (v := 5) dX9_meets_212 rfl (by decide) ?_
                  refine o_iload dX9_meets_213 rfl (by rfl) ?_
                  refine o_imul dX9_meets_215 rfl ?_
                  refine o_iconst (v := 4) dX9_meets_216 rfl (by decide) ?_
                  refine o_iadd dX9_meets_217 rfl ?_
                  refine o_iald dX9_meets_218 rfl (by decide) (by rfl) (by rfl) (ixb (a := 5) (t := 4) (by omega) (by decide)) ?_
                  refine o_if_eq (tgt := 227) dX9_meets_219 (by decide) rfl (fun (c219 : (mu 96 (5 * nI i + 4).toNatClampNeg) = 0) => ?_) (fun (c219 : ¬ (mu 96 (5 * nI i + 4).toNatClampNeg) = 0) => ?_)
                  · skip
                    refine o_aload_n dX9_meets_227 rfl rfl (by rfl) ?_
                    refine o_iload dX9_meets_228 rfl (by rfl) ?_
                    refine o_put cl_X9_200 cp_X9_18 dX9_meets_230 rfl (by decide) (by rfl) (by rfl) fitI ?_
                    refine o_aload_n dX9_meets_233 rfl rfl (by rfl) ?_
                    refine o_iload_n dX9_meets_234 rfl rfl (by rfl) ?_
                    refine o_put cl_X9_203 cp_X9_19 dX9_meets_235 rfl (by decide) (by rfl) (by rfl) fitI ?_
                    refine o_iconst (v := 1) dX9_meets_238 rfl (by decide) ?_
                    exact o_zret hq dX9_meets_239 (Or.inr rfl) (MEET.yes hn17 hi hnc hfi ⟨by rw [← hc2, ← hc0]; exact c200, c164, Or.inl (by rw [← hc4]; exact c219)⟩)
                  · skip
                    refine o_iload dX9_meets_222 rfl (by rfl) ?_
                    refine o_if_eq (tgt := 240) dX9_meets_224 (by decide) rfl (fun (c224 : (1 : Int32) = 0) => ?_) (fun (c224 : ¬ (1 : Int32) = 0) => ?_)
                    · skip
                      exact absurd c224 (by decide)
                    · skip
                      refine o_aload_n dX9_meets_227 rfl rfl (by rfl) ?_
                      refine o_iload dX9_meets_228 rfl (by rfl) ?_
                      refine o_put cl_X9_200 cp_X9_18 dX9_meets_230 rfl (by decide) (by rfl) (by rfl) fitI ?_
                      refine o_aload_n dX9_meets_233 rfl rfl (by rfl) ?_
                      refine o_iload_n dX9_meets_234 rfl rfl (by rfl) ?_
                      refine o_put cl_X9_203 cp_X9_19 dX9_meets_235 rfl (by decide) (by rfl) (by rfl) fitI ?_
                      refine o_iconst (v := 1) dX9_meets_238 rfl (by decide) ?_
                      exact o_zret hq dX9_meets_239 (Or.inr rfl) (MEET.yes hn17 hi hnc hfi ⟨by rw [← hc2, ← hc0]; exact c200, c164, Or.inr (Or.inl c131)⟩)
          · skip
            refine o_aload_n dX9_meets_134 rfl rfl (by rfl) ?_
            refine o_getI cl_X9_185 dX9_meets_135 rfl (by decide) (by rfl) (by rfl) ?_
            refine o_iconst (v := 2) dX9_meets_138 rfl (by decide) ?_
            refine o_icmp_ge (tgt := 146) dX9_meets_139 (by decide) rfl (fun (c139 : 2 ≤ (mu 94 26)) => ?_) (fun (c139 : ¬ 2 ≤ (mu 94 26)) => ?_)
            · skip
              refine o_iconst (v := 0) dX9_meets_146 rfl (by decide) ?_
              refine o_istore (L' := [(0, vC 94), (1, vI ay), (2, vI u), (3, vI stp), (4, vI ((mu 94 22) - (mu 94 28))), (5, vI ((mu 94 23) - (mu 94 29))), (6, vI (nI i)), (7, vI 0)]) dX9_meets_147 rfl (by decide) (by rfl) (by rfl) ?_
              refine o_aload_n dX9_meets_149 rfl rfl (by rfl) ?_
              refine o_getI cl_X9_179 dX9_meets_150 rfl (by decide) (by rfl) (by rfl) ?_
              refine o_iload_n dX9_meets_153 rfl rfl (by rfl) ?_
              refine o_isub dX9_meets_154 rfl ?_
              refine o_callS cs_X9_size ct_X9_197 (c_X9_size _ _) hq.2.2.2 (Nat.le_of_ble_eq_true rfl) dX9_meets_155 rfl rfl rfl (Nat.le_of_ble_eq_true rfl) (fun rz155 mu7 hz155 => ?_)
              obtain ⟨em, hz155⟩ := hz155
              rw [em]
              subst hz155
              refine o_aload_n dX9_meets_158 rfl rfl (by rfl) ?_
              refine o_getC (q := 95) cl_X9_7 dX9_meets_159 rfl (by decide) (by rfl) (by rfl) ?_
              refine o_iconst (v := 2) dX9_meets_162 rfl (by decide) ?_
              refine o_iald dX9_meets_163 rfl (by decide) (by rfl) (by rfl) (vp_in_nI (n := 2) (by decide) (by decide)) ?_
              refine o_icmp_gt (tgt := 171) dX9_meets_164 (by decide) rfl (fun (c164 : (mu 95 2) < (ab ((mu 94 24) - u))) => ?_) (fun (c164 : ¬ (mu 95 2) < (ab ((mu 94 24) - u))) => ?_)
              · skip
                refine o_iconst (v := 0) dX9_meets_171 rfl (by decide) ?_
                refine o_istore (L' := [(0, vC 94), (1, vI ay), (2, vI u), (3, vI stp), (4, vI ((mu 94 22) - (mu 94 28))), (5, vI ((mu 94 23) - (mu 94 29))), (6, vI (nI i)), (7, vI 0), (8, vI 0)]) dX9_meets_172 rfl (by decide) (by rfl) (by rfl) ?_
                refine o_iload dX9_meets_174 rfl (by rfl) ?_
                refine o_aload_n dX9_meets_176 rfl rfl (by rfl) ?_
                refine o_getC (q := 96) cl_X9_13 dX9_meets_177 rfl (by decide) (by rfl) (by rfl) ?_
                refine o_iconst (v := 5) dX9_meets_180 rfl (by decide) ?_
                refine o_iload dX9_meets_181 rfl (by rfl) ?_
                refine o_imul dX9_meets_183 rfl ?_
                refine o_iald dX9_meets_184 rfl (by decide) (by rfl) (by rfl) (ixc (a := 5) (by omega) (by decide)) ?_
                refine o_isub dX9_meets_185 rfl ?_
                refine o_callS cs_X9_size ct_X9_197 (c_X9_size _ _) hq.2.2.2 (Nat.le_of_ble_eq_true rfl) dX9_meets_186 rfl rfl rfl (Nat.le_of_ble_eq_true rfl) (fun rz186 mu8 hz186 => ?_)
                obtain ⟨em, hz186⟩ := hz186
                rw [em]
                subst hz186
                refine o_aload_n dX9_meets_189 rfl rfl (by rfl) ?_
                refine o_getC (q := 96) cl_X9_13 dX9_meets_190 rfl (by decide) (by rfl) (by rfl) ?_
                refine o_iconst (v := 5) dX9_meets_193 rfl (by decide) ?_
                refine o_iload dX9_meets_194 rfl (by rfl) ?_
                refine o_imul dX9_meets_196 rfl ?_
                refine o_iconst (v := 2) dX9_meets_197 rfl (by decide) ?_
                refine o_iadd dX9_meets_198 rfl ?_
                refine o_iald dX9_meets_199 rfl (by decide) (by rfl) (by rfl) (ixb (a := 5) (t := 2) (by omega) (by decide)) ?_
                refine o_icmp_gt (tgt := 240) dX9_meets_200 (by decide) rfl (fun (c200 : (mu 96 (5 * nI i + 2).toNatClampNeg) < (ab (((mu 94 22) - (mu 94 28)) - (mu 96 (5 * nI i).toNatClampNeg)))) => ?_) (fun (c200 : ¬ (mu 96 (5 * nI i + 2).toNatClampNeg) < (ab (((mu 94 22) - (mu 94 28)) - (mu 96 (5 * nI i).toNatClampNeg)))) => ?_)
                · skip
                  refine o_aload_n dX9_meets_240 rfl rfl (by rfl) ?_
                  refine o_dup dX9_meets_241 rfl rfl ?_
                  refine o_getI cl_X9_206 dX9_meets_242 rfl (by decide) (by rfl) (by rfl) ?_
                  refine o_iconst (v := 1) dX9_meets_245 rfl (by decide) ?_
                  refine o_iadd dX9_meets_246 rfl ?_
                  refine o_put cl_X9_206 cp_X9_20 dX9_meets_247 rfl (by decide) (by rfl) (by rfl) fitI ?_
                  refine o_aload_n dX9_meets_250 rfl rfl (by rfl) ?_
                  refine o_aload_n dX9_meets_251 rfl rfl (by rfl) ?_
                  refine o_getI cl_X9_182 dX9_meets_252 rfl (by decide) (by rfl) (by rfl) ?_
                  refine o_callS cs_X9_size ct_X9_197 (c_X9_size _ _) hq.2.2.2 (Nat.le_of_ble_eq_true rfl) dX9_meets_255 rfl rfl rfl (Nat.le_of_ble_eq_true rfl) (fun rz255 mu9 hz255 => ?_)
                  obtain ⟨em, hz255⟩ := hz255
                  rw [em]
                  subst hz255
                  refine o_iconst (v := 2) dX9_meets_258 rfl (by decide) ?_
                  refine o_idiv dX9_meets_259 rfl (by decide) ?_
                  refine o_put cl_X9_182 cp_X9_25 dX9_meets_260 rfl (by decide) (by rfl) (by rfl) fitI ?_
                  refine o_iconst (v := 0) dX9_meets_263 rfl (by decide) ?_
                  exact o_zret hq dX9_meets_264 (Or.inl rfl) (MEET.rim hn17 hi hfi (fun h9 => h9.1 (by rw [← hc2, ← hc0]; exact c200)))
                · skip
                  refine o_iload dX9_meets_203 rfl (by rfl) ?_
                  refine o_if_eq (tgt := 240) dX9_meets_205 (by decide) rfl (fun (c205 : (0 : Int32) = 0) => ?_) (fun (c205 : ¬ (0 : Int32) = 0) => ?_)
                  · skip
                    refine o_aload_n dX9_meets_240 rfl rfl (by rfl) ?_
                    refine o_dup dX9_meets_241 rfl rfl ?_
                    refine o_getI cl_X9_206 dX9_meets_242 rfl (by decide) (by rfl) (by rfl) ?_
                    refine o_iconst (v := 1) dX9_meets_245 rfl (by decide) ?_
                    refine o_iadd dX9_meets_246 rfl ?_
                    refine o_put cl_X9_206 cp_X9_20 dX9_meets_247 rfl (by decide) (by rfl) (by rfl) fitI ?_
                    refine o_aload_n dX9_meets_250 rfl rfl (by rfl) ?_
                    refine o_aload_n dX9_meets_251 rfl rfl (by rfl) ?_
                    refine o_getI cl_X9_182 dX9_meets_252 rfl (by decide) (by rfl) (by rfl) ?_
                    refine o_callS cs_X9_size ct_X9_197 (c_X9_size _ _) hq.2.2.2 (Nat.le_of_ble_eq_true rfl) dX9_meets_255 rfl rfl rfl (Nat.le_of_ble_eq_true rfl) (fun rz255 mu10 hz255 => ?_)
                    obtain ⟨em, hz255⟩ := hz255
                    rw [em]
                    subst hz255
                    refine o_iconst (v := 2) dX9_meets_258 rfl (by decide) ?_
                    refine o_idiv dX9_meets_259 rfl (by decide) ?_
                    refine o_put cl_X9_182 cp_X9_25 dX9_meets_260 rfl (by decide) (by rfl) (by rfl) fitI ?_
                    refine o_iconst (v := 0) dX9_meets_263 rfl (by decide) ?_
                    exact o_zret hq dX9_meets_264 (Or.inl rfl) (MEET.rim hn17 hi hfi (fun h9 => h9.2.1 c164))
                  · skip
                    exact absurd (by decide) c205
              · skip
                refine o_iconst (v := 1) dX9_meets_167 rfl (by decide) ?_
                refine o_goto (tgt := 172) dX9_meets_168 (by decide) ?_
                refine o_istore (L' := [(0, vC 94), (1, vI ay), (2, vI u), (3, vI stp), (4, vI ((mu 94 22) - (mu 94 28))), (5, vI ((mu 94 23) - (mu 94 29))), (6, vI (nI i)), (7, vI 0), (8, vI 1)]) dX9_meets_172 rfl (by decide) (by rfl) (by rfl) ?_
                refine o_iload dX9_meets_174 rfl (by rfl) ?_
                refine o_aload_n dX9_meets_176 rfl rfl (by rfl) ?_
                refine o_getC (q := 96) cl_X9_13 dX9_meets_177 rfl (by decide) (by rfl) (by rfl) ?_
                refine o_iconst (v := 5) dX9_meets_180 rfl (by decide) ?_
                refine o_iload dX9_meets_181 rfl (by rfl) ?_
                refine o_imul dX9_meets_183 rfl ?_
                refine o_iald dX9_meets_184 rfl (by decide) (by rfl) (by rfl) (ixc (a := 5) (by omega) (by decide)) ?_
                refine o_isub dX9_meets_185 rfl ?_
                refine o_callS cs_X9_size ct_X9_197 (c_X9_size _ _) hq.2.2.2 (Nat.le_of_ble_eq_true rfl) dX9_meets_186 rfl rfl rfl (Nat.le_of_ble_eq_true rfl) (fun rz186 mu11 hz186 => ?_)
                obtain ⟨em, hz186⟩ := hz186
                rw [em]
                subst hz186
                refine o_aload_n dX9_meets_189 rfl rfl (by rfl) ?_
                refine o_getC (q := 96) cl_X9_13 dX9_meets_190 rfl (by decide) (by rfl) (by rfl) ?_
                refine o_iconst (v := 5) dX9_meets_193 rfl (by decide) ?_
                refine o_iload dX9_meets_194 rfl (by rfl) ?_
                refine o_imul dX9_meets_196 rfl ?_
                refine o_iconst (v := 2) dX9_meets_197 rfl (by decide) ?_
                refine o_iadd dX9_meets_198 rfl ?_
                refine o_iald dX9_meets_199 rfl (by decide) (by rfl) (by rfl) (ixb (a := 5) (t := 2) (by omega) (by decide)) ?_
                refine o_icmp_gt (tgt := 240) dX9_meets_200 (by decide) rfl (fun (c200 : (mu 96 (5 * nI i + 2).toNatClampNeg) < (ab (((mu 94 22) - (mu 94 28)) - (mu 96 (5 * nI i).toNatClampNeg)))) => ?_) (fun (c200 : ¬ (mu 96 (5 * nI i + 2).toNatClampNeg) < (ab (((mu 94 22) - (mu 94 28)) - (mu 96 (5 * nI i).toNatClampNeg)))) => ?_)
                · skip
                  refine o_aload_n dX9_meets_240 rfl rfl (by rfl) ?_
                  refine o_dup dX9_meets_241 rfl rfl ?_
                  refine o_getI cl_X9_206 dX9_meets_242 rfl (by decide) (by rfl) (by rfl) ?_
                  refine o_iconst (v := 1) dX9_meets_245 rfl (by decide) ?_
                  refine o_iadd dX9_meets_246 rfl ?_
                  refine o_put cl_X9_206 cp_X9_20 dX9_meets_247 rfl (by decide) (by rfl) (by rfl) fitI ?_
                  refine o_aload_n dX9_meets_250 rfl rfl (by rfl) ?_
                  refine o_aload_n dX9_meets_251 rfl rfl (by rfl) ?_
                  refine o_getI cl_X9_182 dX9_meets_252 rfl (by decide) (by rfl) (by rfl) ?_
                  refine o_callS cs_X9_size ct_X9_197 (c_X9_size _ _) hq.2.2.2 (Nat.le_of_ble_eq_true rfl) dX9_meets_255 rfl rfl rfl (Nat.le_of_ble_eq_true rfl) (fun rz255 mu12 hz255 => ?_)
                  obtain ⟨em, hz255⟩ := hz255
                  rw [em]
                  subst hz255
                  refine o_iconst (v := 2) dX9_meets_258 rfl (by decide) ?_
                  refine o_idiv dX9_meets_259 rfl (by decide) ?_
                  refine o_put cl_X9_182 cp_X9_25 dX9_meets_260 rfl (by decide) (by rfl) (by rfl) fitI ?_
                  refine o_iconst (v := 0) dX9_meets_263 rfl (by decide) ?_
                  exact o_zret hq dX9_meets_264 (Or.inl rfl) (MEET.rim hn17 hi hfi (fun h9 => h9.1 (by rw [← hc2, ← hc0]; exact c200)))
                · skip
                  refine o_iload dX9_meets_203 rfl (by rfl) ?_
                  refine o_if_eq (tgt := 240) dX9_meets_205 (by decide) rfl (fun (c205 : (1 : Int32) = 0) => ?_) (fun (c205 : ¬ (1 : Int32) = 0) => ?_)
                  · skip
                    exact absurd c205 (by decide)
                  · skip
                    refine o_aload_n dX9_meets_208 rfl rfl (by rfl) ?_
                    refine o_getC (q := 96) cl_X9_13 dX9_meets_209 rfl (by decide) (by rfl) (by rfl) ?_
                    refine o_iconst (v := 5) dX9_meets_212 rfl (by decide) ?_
                    refine o_iload dX9_meets_213 rfl (by rfl) ?_
                    refine o_imul dX9_meets_215 rfl ?_
                    refine o_iconst (v := 4) dX9_meets_216 rfl (by decide) ?_
                    refine o_iadd dX9_meets_217 rfl ?_
                    refine o_iald dX9_meets_218 rfl (by decide) (by rfl) (by rfl) (ixb (a := 5) (t := 4) (by omega) (by decide)) ?_
                    refine o_if_eq (tgt := 227) dX9_meets_219 (by decide) rfl (fun (c219 : (mu 96 (5 * nI i + 4).toNatClampNeg) = 0) => ?_) (fun (c219 : ¬ (mu 96 (5 * nI i + 4).toNatClampNeg) = 0) => ?_)
                    · skip
                      refine o_aload_n dX9_meets_227 rfl rfl (by rfl) ?_
                      refine o_iload dX9_meets_228 rfl (by rfl) ?_
                      refine o_put cl_X9_200 cp_X9_18 dX9_meets_230 rfl (by decide) (by rfl) (by rfl) fitI ?_
                      refine o_aload_n dX9_meets_233 rfl rfl (by rfl) ?_
                      refine o_iload_n dX9_meets_234 rfl rfl (by rfl) ?_
                      refine o_put cl_X9_203 cp_X9_19 dX9_meets_235 rfl (by decide) (by rfl) (by rfl) fitI ?_
                      refine o_iconst (v := 1) dX9_meets_238 rfl (by decide) ?_
                      exact o_zret hq dX9_meets_239 (Or.inr rfl) (MEET.yes hn17 hi hnc hfi ⟨by rw [← hc2, ← hc0]; exact c200, c164, Or.inl (by rw [← hc4]; exact c219)⟩)
                    · skip
                      refine o_iload dX9_meets_222 rfl (by rfl) ?_
                      refine o_if_eq (tgt := 240) dX9_meets_224 (by decide) rfl (fun (c224 : (0 : Int32) = 0) => ?_) (fun (c224 : ¬ (0 : Int32) = 0) => ?_)
                      · skip
                        refine o_aload_n dX9_meets_240 rfl rfl (by rfl) ?_
                        refine o_dup dX9_meets_241 rfl rfl ?_
                        refine o_getI cl_X9_206 dX9_meets_242 rfl (by decide) (by rfl) (by rfl) ?_
                        refine o_iconst (v := 1) dX9_meets_245 rfl (by decide) ?_
                        refine o_iadd dX9_meets_246 rfl ?_
                        refine o_put cl_X9_206 cp_X9_20 dX9_meets_247 rfl (by decide) (by rfl) (by rfl) fitI ?_
                        refine o_aload_n dX9_meets_250 rfl rfl (by rfl) ?_
                        refine o_aload_n dX9_meets_251 rfl rfl (by rfl) ?_
                        refine o_getI cl_X9_182 dX9_meets_252 rfl (by decide) (by rfl) (by rfl) ?_
                        refine o_callS cs_X9_size ct_X9_197 (c_X9_size _ _) hq.2.2.2 (Nat.le_of_ble_eq_true rfl) dX9_meets_255 rfl rfl rfl (Nat.le_of_ble_eq_true rfl) (fun rz255 mu13 hz255 => ?_)
                        obtain ⟨em, hz255⟩ := hz255
                        rw [em]
                        subst hz255
                        refine o_iconst (v := 2) dX9_meets_258 rfl (by decide) ?_
                        refine o_idiv dX9_meets_259 rfl (by decide) ?_
                        refine o_put cl_X9_182 cp_X9_25 dX9_meets_260 rfl (by decide) (by rfl) (by rfl) fitI ?_
                        refine o_iconst (v := 0) dX9_meets_263 rfl (by decide) ?_
                        exact o_zret hq dX9_meets_264 (Or.inl rfl) (MEET.rim hn17 hi hfi (fun h9 => h9.2.2.elim (fun q => c219 (by rw [hc4]; exact q)) (fun q => upr_no c131 c139 q)))
                      · skip
                        exact absurd (by decide) c224
            · skip
              refine o_iconst (v := 1) dX9_meets_142 rfl (by decide) ?_
              refine o_goto (tgt := 147) dX9_meets_143 (by decide) ?_
              refine o_istore (L' := [(0, vC 94), (1, vI ay), (2, vI u), (3, vI stp), (4, vI ((mu 94 22) - (mu 94 28))), (5, vI ((mu 94 23) - (mu 94 29))), (6, vI (nI i)), (7, vI 1)]) dX9_meets_147 rfl (by decide) (by rfl) (by rfl) ?_
              refine o_aload_n dX9_meets_149 rfl rfl (by rfl) ?_
              refine o_getI cl_X9_179 dX9_meets_150 rfl (by decide) (by rfl) (by rfl) ?_
              refine o_iload_n dX9_meets_153 rfl rfl (by rfl) ?_
              refine o_isub dX9_meets_154 rfl ?_
              refine o_callS cs_X9_size ct_X9_197 (c_X9_size _ _) hq.2.2.2 (Nat.le_of_ble_eq_true rfl) dX9_meets_155 rfl rfl rfl (Nat.le_of_ble_eq_true rfl) (fun rz155 mu14 hz155 => ?_)
              obtain ⟨em, hz155⟩ := hz155
              rw [em]
              subst hz155
              refine o_aload_n dX9_meets_158 rfl rfl (by rfl) ?_
              refine o_getC (q := 95) cl_X9_7 dX9_meets_159 rfl (by decide) (by rfl) (by rfl) ?_
              refine o_iconst (v := 2) dX9_meets_162 rfl (by decide) ?_
              refine o_iald dX9_meets_163 rfl (by decide) (by rfl) (by rfl) (vp_in_nI (n := 2) (by decide) (by decide)) ?_
              refine o_icmp_gt (tgt := 171) dX9_meets_164 (by decide) rfl (fun (c164 : (mu 95 2) < (ab ((mu 94 24) - u))) => ?_) (fun (c164 : ¬ (mu 95 2) < (ab ((mu 94 24) - u))) => ?_)
              · skip
                refine o_iconst (v := 0) dX9_meets_171 rfl (by decide) ?_
                refine o_istore (L' := [(0, vC 94), (1, vI ay), (2, vI u), (3, vI stp), (4, vI ((mu 94 22) - (mu 94 28))), (5, vI ((mu 94 23) - (mu 94 29))), (6, vI (nI i)), (7, vI 1), (8, vI 0)]) dX9_meets_172 rfl (by decide) (by rfl) (by rfl) ?_
                refine o_iload dX9_meets_174 rfl (by rfl) ?_
                refine o_aload_n dX9_meets_176 rfl rfl (by rfl) ?_
                refine o_getC (q := 96) cl_X9_13 dX9_meets_177 rfl (by decide) (by rfl) (by rfl) ?_
                refine o_iconst (v := 5) dX9_meets_180 rfl (by decide) ?_
                refine o_iload dX9_meets_181 rfl (by rfl) ?_
                refine o_imul dX9_meets_183 rfl ?_
                refine o_iald dX9_meets_184 rfl (by decide) (by rfl) (by rfl) (ixc (a := 5) (by omega) (by decide)) ?_
                refine o_isub dX9_meets_185 rfl ?_
                refine o_callS cs_X9_size ct_X9_197 (c_X9_size _ _) hq.2.2.2 (Nat.le_of_ble_eq_true rfl) dX9_meets_186 rfl rfl rfl (Nat.le_of_ble_eq_true rfl) (fun rz186 mu15 hz186 => ?_)
                obtain ⟨em, hz186⟩ := hz186
                rw [em]
                subst hz186
                refine o_aload_n dX9_meets_189 rfl rfl (by rfl) ?_
                refine o_getC (q := 96) cl_X9_13 dX9_meets_190 rfl (by decide) (by rfl) (by rfl) ?_
                refine o_iconst (v := 5) dX9_meets_193 rfl (by decide) ?_
                refine o_iload dX9_meets_194 rfl (by rfl) ?_
                refine o_imul dX9_meets_196 rfl ?_
                refine o_iconst (v := 2) dX9_meets_197 rfl (by decide) ?_
                refine o_iadd dX9_meets_198 rfl ?_
                refine o_iald dX9_meets_199 rfl (by decide) (by rfl) (by rfl) (ixb (a := 5) (t := 2) (by omega) (by decide)) ?_
                refine o_icmp_gt (tgt := 240) dX9_meets_200 (by decide) rfl (fun (c200 : (mu 96 (5 * nI i + 2).toNatClampNeg) < (ab (((mu 94 22) - (mu 94 28)) - (mu 96 (5 * nI i).toNatClampNeg)))) => ?_) (fun (c200 : ¬ (mu 96 (5 * nI i + 2).toNatClampNeg) < (ab (((mu 94 22) - (mu 94 28)) - (mu 96 (5 * nI i).toNatClampNeg)))) => ?_)
                · skip
                  refine o_aload_n dX9_meets_240 rfl rfl (by rfl) ?_
                  refine o_dup dX9_meets_241 rfl rfl ?_
                  refine o_getI cl_X9_206 dX9_meets_242 rfl (by decide) (by rfl) (by rfl) ?_
                  refine o_iconst (v := 1) dX9_meets_245 rfl (by decide) ?_
                  refine o_iadd dX9_meets_246 rfl ?_
                  refine o_put cl_X9_206 cp_X9_20 dX9_meets_247 rfl (by decide) (by rfl) (by rfl) fitI ?_
                  refine o_aload_n dX9_meets_250 rfl rfl (by rfl) ?_
                  refine o_aload_n dX9_meets_251 rfl rfl (by rfl) ?_
                  refine o_getI cl_X9_182 dX9_meets_252 rfl (by decide) (by rfl) (by rfl) ?_
                  refine o_callS cs_X9_size ct_X9_197 (c_X9_size _ _) hq.2.2.2 (Nat.le_of_ble_eq_true rfl) dX9_meets_255 rfl rfl rfl (Nat.le_of_ble_eq_true rfl) (fun rz255 mu16 hz255 => ?_)
                  obtain ⟨em, hz255⟩ := hz255
                  rw [em]
                  subst hz255
                  refine o_iconst (v := 2) dX9_meets_258 rfl (by decide) ?_
                  refine o_idiv dX9_meets_259 rfl (by decide) ?_
                  refine o_put cl_X9_182 cp_X9_25 dX9_meets_260 rfl (by decide) (by rfl) (by rfl) fitI ?_
                  refine o_iconst (v := 0) dX9_meets_263 rfl (by decide) ?_
                  exact o_zret hq dX9_meets_264 (Or.inl rfl) (MEET.rim hn17 hi hfi (fun h9 => h9.1 (by rw [← hc2, ← hc0]; exact c200)))
                · skip
                  refine o_iload dX9_meets_203 rfl (by rfl) ?_
                  refine o_if_eq (tgt := 240) dX9_meets_205 (by decide) rfl (fun (c205 : (0 : Int32) = 0) => ?_) (fun (c205 : ¬ (0 : Int32) = 0) => ?_)
                  · skip
                    refine o_aload_n dX9_meets_240 rfl rfl (by rfl) ?_
                    refine o_dup dX9_meets_241 rfl rfl ?_
                    refine o_getI cl_X9_206 dX9_meets_242 rfl (by decide) (by rfl) (by rfl) ?_
                    refine o_iconst (v := 1) dX9_meets_245 rfl (by decide) ?_
                    refine o_iadd dX9_meets_246 rfl ?_
                    refine o_put cl_X9_206 cp_X9_20 dX9_meets_247 rfl (by decide) (by rfl) (by rfl) fitI ?_
                    refine o_aload_n dX9_meets_250 rfl rfl (by rfl) ?_
                    refine o_aload_n dX9_meets_251 rfl rfl (by rfl) ?_
                    refine o_getI cl_X9_182 dX9_meets_252 rfl (by decide) (by rfl) (by rfl) ?_
                    refine o_callS cs_X9_size ct_X9_197 (c_X9_size _ _) hq.2.2.2 (Nat.le_of_ble_eq_true rfl) dX9_meets_255 rfl rfl rfl (Nat.le_of_ble_eq_true rfl) (fun rz255 mu17 hz255 => ?_)
                    obtain ⟨em, hz255⟩ := hz255
                    rw [em]
                    subst hz255
                    refine o_iconst (v := 2) dX9_meets_258 rfl (by decide) ?_
                    refine o_idiv dX9_meets_259 rfl (by decide) ?_
                    refine o_put cl_X9_182 cp_X9_25 dX9_meets_260 rfl (by decide) (by rfl) (by rfl) fitI ?_
                    refine o_iconst (v := 0) dX9_meets_263 rfl (by decide) ?_
                    exact o_zret hq dX9_meets_264 (Or.inl rfl) (MEET.rim hn17 hi hfi (fun h9 => h9.2.1 c164))
                  · skip
                    exact absurd (by decide) c205
              · skip
                refine o_iconst (v := 1) dX9_meets_167 rfl (by decide) ?_
                refine o_goto (tgt := 172) dX9_meets_168 (by decide) ?_
                refine o_istore (L' := [(0, vC 94), (1, vI ay), (2, vI u), (3, vI stp), (4, vI ((mu 94 22) - (mu 94 28))), (5, vI ((mu 94 23) - (mu 94 29))), (6, vI (nI i)), (7, vI 1), (8, vI 1)]) dX9_meets_172 rfl (by decide) (by rfl) (by rfl) ?_
                refine o_iload dX9_meets_174 rfl (by rfl) ?_
                refine o_aload_n dX9_meets_176 rfl rfl (by rfl) ?_
                refine o_getC (q := 96) cl_X9_13 dX9_meets_177 rfl (by decide) (by rfl) (by rfl) ?_
                refine o_iconst (v := 5) dX9_meets_180 rfl (by decide) ?_
                refine o_iload dX9_meets_181 rfl (by rfl) ?_
                refine o_imul dX9_meets_183 rfl ?_
                refine o_iald dX9_meets_184 rfl (by decide) (by rfl) (by rfl) (ixc (a := 5) (by omega) (by decide)) ?_
                refine o_isub dX9_meets_185 rfl ?_
                refine o_callS cs_X9_size ct_X9_197 (c_X9_size _ _) hq.2.2.2 (Nat.le_of_ble_eq_true rfl) dX9_meets_186 rfl rfl rfl (Nat.le_of_ble_eq_true rfl) (fun rz186 mu18 hz186 => ?_)
                obtain ⟨em, hz186⟩ := hz186
                rw [em]
                subst hz186
                refine o_aload_n dX9_meets_189 rfl rfl (by rfl) ?_
                refine o_getC (q := 96) cl_X9_13 dX9_meets_190 rfl (by decide) (by rfl) (by rfl) ?_
                refine o_iconst (v := 5) dX9_meets_193 rfl (by decide) ?_
                refine o_iload dX9_meets_194 rfl (by rfl) ?_
                refine o_imul dX9_meets_196 rfl ?_
                refine o_iconst (v := 2) dX9_meets_197 rfl (by decide) ?_
                refine o_iadd dX9_meets_198 rfl ?_
                refine o_iald dX9_meets_199 rfl (by decide) (by rfl) (by rfl) (ixb (a := 5) (t := 2) (by omega) (by decide)) ?_
                refine o_icmp_gt (tgt := 240) dX9_meets_200 (by decide) rfl (fun (c200 : (mu 96 (5 * nI i + 2).toNatClampNeg) < (ab (((mu 94 22) - (mu 94 28)) - (mu 96 (5 * nI i).toNatClampNeg)))) => ?_) (fun (c200 : ¬ (mu 96 (5 * nI i + 2).toNatClampNeg) < (ab (((mu 94 22) - (mu 94 28)) - (mu 96 (5 * nI i).toNatClampNeg)))) => ?_)
                · skip
                  refine o_aload_n dX9_meets_240 rfl rfl (by rfl) ?_
                  refine o_dup dX9_meets_241 rfl rfl ?_
                  refine o_getI cl_X9_206 dX9_meets_242 rfl (by decide) (by rfl) (by rfl) ?_
                  refine o_iconst (v := 1) dX9_meets_245 rfl (by decide) ?_
                  refine o_iadd dX9_meets_246 rfl ?_
                  refine o_put cl_X9_206 cp_X9_20 dX9_meets_247 rfl (by decide) (by rfl) (by rfl) fitI ?_
                  refine o_aload_n dX9_meets_250 rfl rfl (by rfl) ?_
                  refine o_aload_n dX9_meets_251 rfl rfl (by rfl) ?_
                  refine o_getI cl_X9_182 dX9_meets_252 rfl (by decide) (by rfl) (by rfl) ?_
                  refine o_callS cs_X9_size ct_X9_197 (c_X9_size _ _) hq.2.2.2 (Nat.le_of_ble_eq_true rfl) dX9_meets_255 rfl rfl rfl (Nat.le_of_ble_eq_true rfl) (fun rz255 mu19 hz255 => ?_)
                  obtain ⟨em, hz255⟩ := hz255
                  rw [em]
                  subst hz255
                  refine o_iconst (v := 2) dX9_meets_258 rfl (by decide) ?_
                  refine o_idiv dX9_meets_259 rfl (by decide) ?_
                  refine o_put cl_X9_182 cp_X9_25 dX9_meets_260 rfl (by decide) (by rfl) (by rfl) fitI ?_
                  refine o_iconst (v := 0) dX9_meets_263 rfl (by decide) ?_
                  exact o_zret hq dX9_meets_264 (Or.inl rfl) (MEET.rim hn17 hi hfi (fun h9 => h9.1 (by rw [← hc2, ← hc0]; exact c200)))
                · skip
                  refine o_iload dX9_meets_203 rfl (by rfl) ?_
                  refine o_if_eq (tgt := 240) dX9_meets_205 (by decide) rfl (fun (c205 : (1 : Int32) = 0) => ?_) (fun (c205 : ¬ (1 : Int32) = 0) => ?_)
                  · skip
                    exact absurd c205 (by decide)
                  · skip
                    refine o_aload_n dX9_meets_208 rfl rfl (by rfl) ?_
                    refine o_getC (q := 96) cl_X9_13 dX9_meets_209 rfl (by decide) (by rfl) (by rfl) ?_
                    refine o_iconst (v := 5) dX9_meets_212 rfl (by decide) ?_
                    refine o_iload dX9_meets_213 rfl (by rfl) ?_
                    refine o_imul dX9_meets_215 rfl ?_
                    refine o_iconst (v := 4) dX9_meets_216 rfl (by decide) ?_
                    refine o_iadd dX9_meets_217 rfl ?_
                    refine o_iald dX9_meets_218 rfl (by decide) (by rfl) (by rfl) (ixb (a := 5) (t := 4) (by omega) (by decide)) ?_
                    refine o_if_eq (tgt := 227) dX9_meets_219 (by decide) rfl (fun (c219 : (mu 96 (5 * nI i + 4).toNatClampNeg) = 0) => ?_) (fun (c219 : ¬ (mu 96 (5 * nI i + 4).toNatClampNeg) = 0) => ?_)
                    · skip
                      refine o_aload_n dX9_meets_227 rfl rfl (by rfl) ?_
                      refine o_iload dX9_meets_228 rfl (by rfl) ?_
                      refine o_put cl_X9_200 cp_X9_18 dX9_meets_230 rfl (by decide) (by rfl) (by rfl) fitI ?_
                      refine o_aload_n dX9_meets_233 rfl rfl (by rfl) ?_
                      refine o_iload_n dX9_meets_234 rfl rfl (by rfl) ?_
                      refine o_put cl_X9_203 cp_X9_19 dX9_meets_235 rfl (by decide) (by rfl) (by rfl) fitI ?_
                      refine o_iconst (v := 1) dX9_meets_238 rfl (by decide) ?_
                      exact o_zret hq dX9_meets_239 (Or.inr rfl) (MEET.yes hn17 hi hnc hfi ⟨by rw [← hc2, ← hc0]; exact c200, c164, Or.inl (by rw [← hc4]; exact c219)⟩)
                    · skip
                      refine o_iload dX9_meets_222 rfl (by rfl) ?_
                      refine o_if_eq (tgt := 240) dX9_meets_224 (by decide) rfl (fun (c224 : (1 : Int32) = 0) => ?_) (fun (c224 : ¬ (1 : Int32) = 0) => ?_)
                      · skip
                        exact absurd c224 (by decide)
                      · skip
                        refine o_aload_n dX9_meets_227 rfl rfl (by rfl) ?_
                        refine o_iload dX9_meets_228 rfl (by rfl) ?_
                        refine o_put cl_X9_200 cp_X9_18 dX9_meets_230 rfl (by decide) (by rfl) (by rfl) fitI ?_
                        refine o_aload_n dX9_meets_233 rfl rfl (by rfl) ?_
                        refine o_iload_n dX9_meets_234 rfl rfl (by rfl) ?_
                        refine o_put cl_X9_203 cp_X9_19 dX9_meets_235 rfl (by decide) (by rfl) (by rfl) fitI ?_
                        refine o_iconst (v := 1) dX9_meets_238 rfl (by decide) ?_
                        exact o_zret hq dX9_meets_239 (Or.inr rfl) (MEET.yes hn17 hi hnc hfi ⟨by rw [← hc2, ← hc0]; exact c200, c164, Or.inr (Or.inr (h26 (Int32.not_le.mp c139)))⟩)
        · skip
          refine o_iconst (v := 0) dX9_meets_123 rfl (by decide) ?_
          exact o_zret hq dX9_meets_124 (Or.inl rfl) (Or.inl ⟨Or.inr ((hM.fst hnc).elim (fun h9 => h9.2) (fun ⟨i, _, h9, _⟩ => absurd (by rw [h9]; exact nI_nn (by omega)) c120)), rfl, rfl⟩)
      · skip
        obtain ⟨c, ec⟩ : ∃ c, t = c + 1 := ⟨t - 1, by have : ¬ t = 0 := fun e9 => c36 (by rw [e9]; decide); omega⟩
        subst ec
        rw [bk1]
        have hc0 : mu 96 (5 * nI c).toNatClampNeg = C c 0 := by rw [show (5 * nI c).toNatClampNeg = 5 * c + 0 from ixm (a := 5) (by omega)]; exact hC c (by omega) 0 (by decide)
        have hc1 : mu 96 (5 * nI c + 1).toNatClampNeg = C c 1 := by rw [show (5 * nI c + 1).toNatClampNeg = 5 * c + 1 from ixl (a := 5) (t := 1) (by omega)]; exact hC c (by omega) 1 (by decide)
        have hc2 : mu 96 (5 * nI c + 2).toNatClampNeg = C c 2 := by rw [show (5 * nI c + 2).toNatClampNeg = 5 * c + 2 from ixl (a := 5) (t := 2) (by omega)]; exact hC c (by omega) 2 (by decide)
        refine o_aload_n dX9_meets_39 rfl rfl (by rfl) ?_
        refine o_getI cl_X9_194 dX9_meets_40 rfl (by decide) (by rfl) (by rfl) ?_
        refine o_if_ne (tgt := 118) dX9_meets_43 (by decide) rfl (fun (c43 : ¬ (mu 94 17) = 0) => ?_) (fun (c43 : (mu 94 17) = 0) => ?_)
        · skip
          refine o_iload dX9_meets_118 rfl (by rfl) ?_
          refine o_if_ge (tgt := 125) dX9_meets_120 (by decide) rfl (fun (c120 : 0 ≤ met) => ?_) (fun (c120 : ¬ 0 ≤ met) => ?_)
          · skip
            rw [hn c43] at c120
            exact absurd c120 (by decide)
          · skip
            refine o_iconst (v := 0) dX9_meets_123 rfl (by decide) ?_
            exact o_zret hq dX9_meets_124 (Or.inl rfl) (Or.inl ⟨Or.inl c43, rfl, rfl⟩)
        · skip
          refine o_aload_n dX9_meets_46 rfl rfl (by rfl) ?_
          refine o_getC (q := 96) cl_X9_13 dX9_meets_47 rfl (by decide) (by rfl) (by rfl) ?_
          refine o_iconst (v := 5) dX9_meets_50 rfl (by decide) ?_
          refine o_iload dX9_meets_51 rfl (by rfl) ?_
          refine o_imul dX9_meets_53 rfl ?_
          refine o_iconst (v := 1) dX9_meets_54 rfl (by decide) ?_
          refine o_iadd dX9_meets_55 rfl ?_
          refine o_iald dX9_meets_56 rfl (by decide) (by rfl) (by rfl) (ixb (a := 5) (t := 1) (by omega) (by decide)) ?_
          refine o_istore (L' := [(0, vC 94), (1, vI ay), (2, vI u), (3, vI stp), (4, vI ((mu 94 22) - (mu 94 28))), (5, vI ((mu 94 23) - (mu 94 29))), (6, vI met), (7, vI (nI c)), (8, vI (mu 96 (5 * nI c + 1).toNatClampNeg))]) dX9_meets_57 rfl (by decide) (by rfl) (by rfl) ?_
          refine o_iload_n dX9_meets_59 rfl rfl (by rfl) ?_
          refine o_iload dX9_meets_60 rfl (by rfl) ?_
          refine o_icmp_lt (tgt := 108) dX9_meets_62 (by decide) rfl (fun (c62 : ay < (mu 96 (5 * nI c + 1).toNatClampNeg)) => ?_) (fun (c62 : ¬ ay < (mu 96 (5 * nI c + 1).toNatClampNeg)) => ?_)
          · skip
            refine o_iload dX9_meets_108 rfl (by rfl) ?_
            refine o_istore (L' := [(0, vC 94), (1, vI ay), (2, vI u), (3, vI stp), (4, vI ((mu 94 22) - (mu 94 28))), (5, vI ((mu 94 23) - (mu 94 29))), (6, vI met), (7, vI (nI c)), (8, vI (mu 96 (5 * nI c + 1).toNatClampNeg))]) dX9_meets_110 rfl (by decide) (by rfl) (by rfl) ?_
            refine o_iinc (v := nI c - 1) (L' := [(0, vC 94), (1, vI ay), (2, vI u), (3, vI stp), (4, vI ((mu 94 22) - (mu 94 28))), (5, vI ((mu 94 23) - (mu 94 29))), (6, vI met), (7, vI (nI c - 1)), (8, vI (mu 96 (5 * nI c + 1).toNatClampNeg))]) dX9_meets_112 rfl (by rfl) (by exact dec1 (nI c)) (by decide) (by rfl) (by rfl) ?_
            refine o_goto (tgt := 34) dX9_meets_115 (by decide) ?_
            refine o_pick (L' := [(0, vC 94), (1, vI ay), (2, vI u), (3, vI stp), (4, vI ((mu 94 22) - (mu 94 28))), (5, vI ((mu 94 23) - (mu 94 29))), (6, vI met), (7, vI (nI c - 1))]) [0, 1, 2, 3, 4, 5, 6, 7] (by rfl) ?_
            exact ihLP34 c _ (by omega) (hM.no (fun h9 => h9.1.1 (by rw [← hc1]; exact c62))) (fun h9 => absurd c43 h9) (by omega)
          · skip
            refine o_iload dX9_meets_65 rfl (by rfl) ?_
            refine o_iload dX9_meets_67 rfl (by rfl) ?_
            refine o_icmp_ge (tgt := 108) dX9_meets_69 (by decide) rfl (fun (c69 : (mu 96 (5 * nI c + 1).toNatClampNeg) ≤ ((mu 94 23) - (mu 94 29))) => ?_) (fun (c69 : ¬ (mu 96 (5 * nI c + 1).toNatClampNeg) ≤ ((mu 94 23) - (mu 94 29))) => ?_)
            · skip
              refine o_iload dX9_meets_108 rfl (by rfl) ?_
              refine o_istore (L' := [(0, vC 94), (1, vI ay), (2, vI u), (3, vI stp), (4, vI ((mu 94 22) - (mu 94 28))), (5, vI ((mu 94 23) - (mu 94 29))), (6, vI met), (7, vI (nI c)), (8, vI (mu 96 (5 * nI c + 1).toNatClampNeg))]) dX9_meets_110 rfl (by decide) (by rfl) (by rfl) ?_
              refine o_iinc (v := nI c - 1) (L' := [(0, vC 94), (1, vI ay), (2, vI u), (3, vI stp), (4, vI ((mu 94 22) - (mu 94 28))), (5, vI ((mu 94 23) - (mu 94 29))), (6, vI met), (7, vI (nI c - 1)), (8, vI (mu 96 (5 * nI c + 1).toNatClampNeg))]) dX9_meets_112 rfl (by rfl) (by exact dec1 (nI c)) (by decide) (by rfl) (by rfl) ?_
              refine o_goto (tgt := 34) dX9_meets_115 (by decide) ?_
              refine o_pick (L' := [(0, vC 94), (1, vI ay), (2, vI u), (3, vI stp), (4, vI ((mu 94 22) - (mu 94 28))), (5, vI ((mu 94 23) - (mu 94 29))), (6, vI met), (7, vI (nI c - 1))]) [0, 1, 2, 3, 4, 5, 6, 7] (by rfl) ?_
              exact ihLP34 c _ (by omega) (hM.no (fun h9 => h9.1.2 (by rw [← hc1]; exact c69))) (fun h9 => absurd c43 h9) (by omega)
            · skip
              refine o_iload dX9_meets_72 rfl (by rfl) ?_
              refine o_aload_n dX9_meets_74 rfl rfl (by rfl) ?_
              refine o_getC (q := 96) cl_X9_13 dX9_meets_75 rfl (by decide) (by rfl) (by rfl) ?_
              refine o_iconst (v := 5) dX9_meets_78 rfl (by decide) ?_
              refine o_iload dX9_meets_79 rfl (by rfl) ?_
              refine o_imul dX9_meets_81 rfl ?_
              refine o_iald dX9_meets_82 rfl (by decide) (by rfl) (by rfl) (ixc (a := 5) (by omega) (by decide)) ?_
              refine o_isub dX9_meets_83 rfl ?_
              refine o_callS cs_X9_size ct_X9_197 (c_X9_size _ _) hq.2.2.2 (Nat.le_of_ble_eq_true rfl) dX9_meets_84 rfl rfl rfl (Nat.le_of_ble_eq_true rfl) (fun rz84 mu20 hz84 => ?_)
              obtain ⟨em, hz84⟩ := hz84
              rw [em]
              subst hz84
              refine o_aload_n dX9_meets_87 rfl rfl (by rfl) ?_
              refine o_getC (q := 96) cl_X9_13 dX9_meets_88 rfl (by decide) (by rfl) (by rfl) ?_
              refine o_iconst (v := 5) dX9_meets_91 rfl (by decide) ?_
              refine o_iload dX9_meets_92 rfl (by rfl) ?_
              refine o_imul dX9_meets_94 rfl ?_
              refine o_iconst (v := 2) dX9_meets_95 rfl (by decide) ?_
              refine o_iadd dX9_meets_96 rfl ?_
              refine o_iald dX9_meets_97 rfl (by decide) (by rfl) (by rfl) (ixb (a := 5) (t := 2) (by omega) (by decide)) ?_
              refine o_iconst (v := 2) dX9_meets_98 rfl (by decide) ?_
              refine o_iadd dX9_meets_99 rfl ?_
              refine o_icmp_gt (tgt := 108) dX9_meets_100 (by decide) rfl (fun (c100 : ((mu 96 (5 * nI c + 2).toNatClampNeg) + 2) < (ab (((mu 94 22) - (mu 94 28)) - (mu 96 (5 * nI c).toNatClampNeg)))) => ?_) (fun (c100 : ¬ ((mu 96 (5 * nI c + 2).toNatClampNeg) + 2) < (ab (((mu 94 22) - (mu 94 28)) - (mu 96 (5 * nI c).toNatClampNeg)))) => ?_)
              · skip
                refine o_iload dX9_meets_108 rfl (by rfl) ?_
                refine o_istore (L' := [(0, vC 94), (1, vI ay), (2, vI u), (3, vI stp), (4, vI ((mu 94 22) - (mu 94 28))), (5, vI ((mu 94 23) - (mu 94 29))), (6, vI met), (7, vI (nI c)), (8, vI (mu 96 (5 * nI c + 1).toNatClampNeg))]) dX9_meets_110 rfl (by decide) (by rfl) (by rfl) ?_
                refine o_iinc (v := nI c - 1) (L' := [(0, vC 94), (1, vI ay), (2, vI u), (3, vI stp), (4, vI ((mu 94 22) - (mu 94 28))), (5, vI ((mu 94 23) - (mu 94 29))), (6, vI met), (7, vI (nI c - 1)), (8, vI (mu 96 (5 * nI c + 1).toNatClampNeg))]) dX9_meets_112 rfl (by rfl) (by exact dec1 (nI c)) (by decide) (by rfl) (by rfl) ?_
                refine o_goto (tgt := 34) dX9_meets_115 (by decide) ?_
                refine o_pick (L' := [(0, vC 94), (1, vI ay), (2, vI u), (3, vI stp), (4, vI ((mu 94 22) - (mu 94 28))), (5, vI ((mu 94 23) - (mu 94 29))), (6, vI met), (7, vI (nI c - 1))]) [0, 1, 2, 3, 4, 5, 6, 7] (by rfl) ?_
                exact ihLP34 c _ (by omega) (hM.no (fun h9 => h9.2 (by rw [← hc2, ← hc0]; exact c100))) (fun h9 => absurd c43 h9) (by omega)
              · skip
                refine o_iload dX9_meets_103 rfl (by rfl) ?_
                refine o_goto (tgt := 110) dX9_meets_105 (by decide) ?_
                refine o_istore (L' := [(0, vC 94), (1, vI ay), (2, vI u), (3, vI stp), (4, vI ((mu 94 22) - (mu 94 28))), (5, vI ((mu 94 23) - (mu 94 29))), (6, vI (nI c)), (7, vI (nI c)), (8, vI (mu 96 (5 * nI c + 1).toNatClampNeg))]) dX9_meets_110 rfl (by decide) (by rfl) (by rfl) ?_
                refine o_iinc (v := nI c - 1) (L' := [(0, vC 94), (1, vI ay), (2, vI u), (3, vI stp), (4, vI ((mu 94 22) - (mu 94 28))), (5, vI ((mu 94 23) - (mu 94 29))), (6, vI (nI c)), (7, vI (nI c - 1)), (8, vI (mu 96 (5 * nI c + 1).toNatClampNeg))]) dX9_meets_112 rfl (by rfl) (by exact dec1 (nI c)) (by decide) (by rfl) (by rfl) ?_
                refine o_goto (tgt := 34) dX9_meets_115 (by decide) ?_
                refine o_pick (L' := [(0, vC 94), (1, vI ay), (2, vI u), (3, vI stp), (4, vI ((mu 94 22) - (mu 94 28))), (5, vI ((mu 94 23) - (mu 94 29))), (6, vI (nI c)), (7, vI (nI c - 1))]) [0, 1, 2, 3, 4, 5, 6, 7] (by rfl) ?_
                exact ihLP34 c _ (by omega) (MT.yes (by omega) ⟨⟨by rw [← hc1]; exact c62, by rw [← hc1]; exact c69⟩, by rw [← hc2, ← hc0]; exact c100⟩) (fun h9 => absurd c43 h9) (by omega)
  rw [enc]
  exact LP34 (nc + 1) nc (-4) (by omega) (Or.inl ⟨rfl, fun i a b => by omega⟩) (fun _ => rfl) (by omega)
