/-! ===== Try: the cord, coming down, begin ===== -/
theorem i_sq {p : Int32} (h1 : -1000 ≤ p.toInt) (h2 : p.toInt ≤ 1000) : (p * p).toInt = p.toInt * p.toInt ∧ 0 ≤ p.toInt * p.toInt ∧ p.toInt * p.toInt ≤ 1000000 := by
  have h3 : 0 ≤ p.toInt * p.toInt := by
    rcases Int.le_total 0 p.toInt with h | h
    · exact Int.mul_nonneg h h
    · exact Int.mul_nonneg_of_nonpos_of_nonpos h h
  have h4 : p.toInt * p.toInt ≤ 1000000 := by
    rcases Int.le_total 0 p.toInt with h | h
    · exact Int.mul_le_mul h2 h2 h (by omega)
    · have := Int.mul_le_mul (show -p.toInt ≤ 1000 by omega) (show -p.toInt ≤ 1000 by omega) (by omega) (by omega)
      rw [Int.neg_mul_neg] at this
      omega
  exact ⟨i_mul (by omega) (by omega), h3, h4⟩
set_option maxHeartbeats 4000000 in
set_option maxRecDepth 100000 in
theorem c_X7_holdByCord (mu : Mu) (S cd : Nat) (hS : sSq (mu 53 6 - mu 54 7) (mu 53 7 - mu 54 8) = nI S) (hS2 : S ≤ 1000000) (hc : mu 53 2 = nI cd) (h1 : 1 ≤ cd) (h60 : cd ≤ 60) : ConV yX7_holdByCord cX7_holdByCord 7 2 [vC 53] mu (fun mu2 => (∀ q, q ≠ 53 → mu2 q = mu q) ∧ Hold (mu 53 2) (mu 54 7) (mu 54 8) (mu 54 5) (mu 53) (mu2 53)) := by
  refine conV_of (own := RX7) (by decide) rfl (Nat.le_of_ble_eq_true rfl) (fun X g hq => ?_)
  show WA X g RX7 7 cX7_holdByCord 0 [(0, vC 53)] [] mu
  refine o_aload_n dX7_holdByCord_0 rfl rfl (by rfl) ?_
  refine o_getI cl_X7_48 dX7_holdByCord_1 rfl (by decide) (by rfl) (by rfl) ?_
  refine o_aload_n dX7_holdByCord_4 rfl rfl (by rfl) ?_
  refine o_getC (q := 54) cl_X7_26 dX7_holdByCord_5 rfl (by decide) (by rfl) (by rfl) ?_
  refine o_getI cl_X7_134 dX7_holdByCord_8 rfl (by decide) (by rfl) (by rfl) ?_
  refine o_isub dX7_holdByCord_11 rfl ?_
  refine o_istore_n (L' := [(0, vC 53), (1, vI ((mu 53 6) - (mu 54 7)))]) dX7_holdByCord_12 rfl rfl (by decide) (by rfl) (by rfl) ?_
  refine o_aload_n dX7_holdByCord_13 rfl rfl (by rfl) ?_
  refine o_getI cl_X7_51 dX7_holdByCord_14 rfl (by decide) (by rfl) (by rfl) ?_
  refine o_aload_n dX7_holdByCord_17 rfl rfl (by rfl) ?_
  refine o_getC (q := 54) cl_X7_26 dX7_holdByCord_18 rfl (by decide) (by rfl) (by rfl) ?_
  refine o_getI cl_X7_117 dX7_holdByCord_21 rfl (by decide) (by rfl) (by rfl) ?_
  refine o_isub dX7_holdByCord_24 rfl ?_
  refine o_istore_n (L' := [(0, vC 53), (1, vI ((mu 53 6) - (mu 54 7))), (2, vI ((mu 53 7) - (mu 54 8)))]) dX7_holdByCord_25 rfl rfl (by decide) (by rfl) (by rfl) ?_
  refine o_iload_n dX7_holdByCord_26 rfl rfl (by rfl) ?_
  refine o_iload_n dX7_holdByCord_27 rfl rfl (by rfl) ?_
  refine o_imul dX7_holdByCord_28 rfl ?_
  refine o_iload_n dX7_holdByCord_29 rfl rfl (by rfl) ?_
  refine o_iload_n dX7_holdByCord_30 rfl rfl (by rfl) ?_
  refine o_imul dX7_holdByCord_31 rfl ?_
  refine o_iadd dX7_holdByCord_32 rfl ?_
  refine o_istore_n (L' := [(0, vC 53), (1, vI ((mu 53 6) - (mu 54 7))), (2, vI ((mu 53 7) - (mu 54 8))), (3, vI ((((mu 53 6) - (mu 54 7)) * ((mu 53 6) - (mu 54 7))) + (((mu 53 7) - (mu 54 8)) * ((mu 53 7) - (mu 54 8)))))]) dX7_holdByCord_33 rfl rfl (by decide) (by rfl) (by rfl) ?_
  refine o_aload_n dX7_holdByCord_34 rfl rfl (by rfl) ?_
  refine o_iload_n dX7_holdByCord_35 rfl rfl (by rfl) ?_
  refine o_aload_n dX7_holdByCord_36 rfl rfl (by rfl) ?_
  refine o_getI cl_X7_34 dX7_holdByCord_37 rfl (by decide) (by rfl) (by rfl) ?_
  refine o_aload_n dX7_holdByCord_40 rfl rfl (by rfl) ?_
  refine o_getI cl_X7_34 dX7_holdByCord_41 rfl (by decide) (by rfl) (by rfl) ?_
  refine o_imul dX7_holdByCord_44 rfl ?_
  refine o_icmp_le (tgt := 52) dX7_holdByCord_45 (by decide) rfl (fun (c45 : ((((mu 53 6) - (mu 54 7)) * ((mu 53 6) - (mu 54 7))) + (((mu 53 7) - (mu 54 8)) * ((mu 53 7) - (mu 54 8)))) ≤ ((mu 53 2) * (mu 53 2))) => ?_) (fun (c45 : ¬ ((((mu 53 6) - (mu 54 7)) * ((mu 53 6) - (mu 54 7))) + (((mu 53 7) - (mu 54 8)) * ((mu 53 7) - (mu 54 8)))) ≤ ((mu 53 2) * (mu 53 2))) => ?_)
  · skip
    refine o_iconst (v := 0) dX7_holdByCord_52 rfl (by decide) ?_
    refine o_put cl_X7_66 cp_X7_12 dX7_holdByCord_53 rfl (by decide) (by rfl) (by rfl) (fitZ (Or.inl rfl)) ?_
    refine o_aload_n dX7_holdByCord_56 rfl rfl (by rfl) ?_
    refine o_getI cl_X7_66 dX7_holdByCord_57 rfl (by decide) (by rfl) (by rfl) ?_
    refine o_if_ne (tgt := 82) dX7_holdByCord_60 (by decide) rfl (fun (c60 : ¬ (0 : Int32) = 0) => ?_) (fun (c60 : (0 : Int32) = 0) => ?_)
    · skip
      exact absurd (by decide) c60
    · skip
      refine o_aload_n dX7_holdByCord_63 rfl rfl (by rfl) ?_
      refine o_aload_n dX7_holdByCord_64 rfl rfl (by rfl) ?_
      refine o_getI cl_X7_60 dX7_holdByCord_65 rfl (by decide) (by rfl) (by rfl) ?_
      refine o_aload_n dX7_holdByCord_68 rfl rfl (by rfl) ?_
      refine o_getI cl_X7_63 dX7_holdByCord_69 rfl (by decide) (by rfl) (by rfl) ?_
      refine o_iadd dX7_holdByCord_72 rfl ?_
      refine o_bipush (v := 16) dX7_holdByCord_73 rfl (by decide) ?_
      refine o_callS cs_J9_floorMod_7cf53 ct_X7_143 (c_J9_floorMod_7cf53 _ (mu 53 10 + mu 53 11)) hq.2.2.2 (Nat.le_of_ble_eq_true rfl) dX7_holdByCord_75 rfl rfl rfl (Nat.le_of_ble_eq_true rfl) (fun r75 mu1 h1 => ?_)
      obtain ⟨em, h75⟩ := h1
      rw [em]
      refine o_put cl_X7_60 cp_X7_10 dX7_holdByCord_78 rfl (by decide) (by rfl) (by rfl) fitI ?_
      exact o_vret hq dX7_holdByCord_81 ⟨fun q hq => by simp [upF, upM, hq], fun j a b c d e f g h => by simp [upF, upM, upd, e, g], Or.inr ⟨fun h => h c45, rfl, rfl, rfl, rfl, h75, rfl, rfl, rfl⟩⟩
  · skip
    refine o_iconst (v := 1) dX7_holdByCord_48 rfl (by decide) ?_
    refine o_goto (tgt := 53) dX7_holdByCord_49 (by decide) ?_
    refine o_put cl_X7_66 cp_X7_12 dX7_holdByCord_53 rfl (by decide) (by rfl) (by rfl) (fitZ (Or.inr rfl)) ?_
    refine o_aload_n dX7_holdByCord_56 rfl rfl (by rfl) ?_
    refine o_getI cl_X7_66 dX7_holdByCord_57 rfl (by decide) (by rfl) (by rfl) ?_
    refine o_if_ne (tgt := 82) dX7_holdByCord_60 (by decide) rfl (fun (c60 : ¬ (1 : Int32) = 0) => ?_) (fun (c60 : (1 : Int32) = 0) => ?_)
    · skip
      have hT : hTaut (mu 53 2) (mu 54 7) (mu 54 8) (mu 53) := c45
      refine o_aload_n dX7_holdByCord_82 rfl rfl (by rfl) ?_
      refine o_iload_n dX7_holdByCord_83 rfl rfl (by rfl) ?_
      refine o_callV cs_X7_wholeRoot cv_X7_146 (c_X7_wholeRoot _ _ S cd hS hc h1 (by have h := c45; unfold sSq at hS; rw [hS, hc, pk_mul] at h; exact Nat.le_of_not_lt (fun q => h (nI_le (Nat.le_of_lt q) (by have := Nat.mul_le_mul h60 h60; omega)))) hS2) hq.2.2.2 (Nat.le_of_ble_eq_true rfl) dX7_holdByCord_84 rfl (by decide) (by rfl) (by rfl) (by rfl) rfl rfl (Nat.le_of_ble_eq_true rfl) (fun r84 mu2 h2 => ?_)
      obtain ⟨em, i84, h84, hi1, hi2, hi3⟩ := h2
      rw [em]
      have hi : i84 ≤ 1000 := Nat.le_of_not_lt (fun q => by have := Nat.mul_le_mul (show 1001 ≤ i84 from q) (show 1001 ≤ i84 from q); omega)
      have hrt : rt (sSq (mu 53 6 - mu 54 7) (mu 53 7 - mu 54 8)) = r84 := rt_is (by rw [hS, h84]; unfold IsRt; rw [nI_toInt (by omega), nI_toInt (by omega)]; refine ⟨by omega, by exact_mod_cast hi2, by exact_mod_cast hi3⟩)
      have hr0 : ¬ r84 = 0 := by rw [h84]; exact nI_ne0 (by omega) (by omega)
      refine o_istore (L' := [(0, vC 53), (1, vI ((mu 53 6) - (mu 54 7))), (2, vI ((mu 53 7) - (mu 54 8))), (3, vI ((((mu 53 6) - (mu 54 7)) * ((mu 53 6) - (mu 54 7))) + (((mu 53 7) - (mu 54 8)) * ((mu 53 7) - (mu 54 8))))), (4, vI r84)]) dX7_holdByCord_87 rfl (by decide) (by rfl) (by rfl) ?_
      refine o_iload_n dX7_holdByCord_89 rfl rfl (by rfl) ?_
      refine o_aload_n dX7_holdByCord_90 rfl rfl (by rfl) ?_
      refine o_getI cl_X7_34 dX7_holdByCord_91 rfl (by decide) (by rfl) (by rfl) ?_
      refine o_imul dX7_holdByCord_94 rfl ?_
      refine o_iload dX7_holdByCord_95 rfl (by rfl) ?_
      refine o_idiv dX7_holdByCord_97 rfl hr0 ?_
      refine o_istore (L' := [(0, vC 53), (1, vI ((mu 53 6) - (mu 54 7))), (2, vI ((mu 53 7) - (mu 54 8))), (3, vI ((((mu 53 6) - (mu 54 7)) * ((mu 53 6) - (mu 54 7))) + (((mu 53 7) - (mu 54 8)) * ((mu 53 7) - (mu 54 8))))), (4, vI r84), (5, vI ((((mu 53 6) - (mu 54 7)) * (mu 53 2)) / r84))]) dX7_holdByCord_98 rfl (by decide) (by rfl) (by rfl) ?_
      refine o_iload_n dX7_holdByCord_100 rfl rfl (by rfl) ?_
      refine o_aload_n dX7_holdByCord_101 rfl rfl (by rfl) ?_
      refine o_getI cl_X7_34 dX7_holdByCord_102 rfl (by decide) (by rfl) (by rfl) ?_
      refine o_imul dX7_holdByCord_105 rfl ?_
      refine o_iload dX7_holdByCord_106 rfl (by rfl) ?_
      refine o_idiv dX7_holdByCord_108 rfl hr0 ?_
      refine o_istore (L' := [(0, vC 53), (1, vI ((mu 53 6) - (mu 54 7))), (2, vI ((mu 53 7) - (mu 54 8))), (3, vI ((((mu 53 6) - (mu 54 7)) * ((mu 53 6) - (mu 54 7))) + (((mu 53 7) - (mu 54 8)) * ((mu 53 7) - (mu 54 8))))), (4, vI r84), (5, vI ((((mu 53 6) - (mu 54 7)) * (mu 53 2)) / r84)), (6, vI ((((mu 53 7) - (mu 54 8)) * (mu 53 2)) / r84))]) dX7_holdByCord_109 rfl (by decide) (by rfl) (by rfl) ?_
      refine o_aload_n dX7_holdByCord_111 rfl rfl (by rfl) ?_
      refine o_aload_n dX7_holdByCord_112 rfl rfl (by rfl) ?_
      refine o_getC (q := 54) cl_X7_26 dX7_holdByCord_113 rfl (by decide) (by rfl) (by rfl) ?_
      refine o_getI cl_X7_134 dX7_holdByCord_116 rfl (by decide) (by rfl) (by rfl) ?_
      refine o_iload dX7_holdByCord_119 rfl (by rfl) ?_
      refine o_iadd dX7_holdByCord_121 rfl ?_
      refine o_put cl_X7_48 cp_X7_6 dX7_holdByCord_122 rfl (by decide) (by rfl) (by rfl) fitI ?_
      refine o_aload_n dX7_holdByCord_125 rfl rfl (by rfl) ?_
      refine o_aload_n dX7_holdByCord_126 rfl rfl (by rfl) ?_
      refine o_getC (q := 54) cl_X7_26 dX7_holdByCord_127 rfl (by decide) (by rfl) (by rfl) ?_
      refine o_getI cl_X7_117 dX7_holdByCord_130 rfl (by decide) (by rfl) (by rfl) ?_
      refine o_iload dX7_holdByCord_133 rfl (by rfl) ?_
      refine o_iadd dX7_holdByCord_135 rfl ?_
      refine o_put cl_X7_51 cp_X7_7 dX7_holdByCord_136 rfl (by decide) (by rfl) (by rfl) fitI ?_
      refine o_aload_n dX7_holdByCord_139 rfl rfl (by rfl) ?_
      refine o_dup dX7_holdByCord_140 rfl rfl ?_
      refine o_getI cl_X7_54 dX7_holdByCord_141 rfl (by decide) (by rfl) (by rfl) ?_
      refine o_iload dX7_holdByCord_144 rfl (by rfl) ?_
      refine o_iload_n dX7_holdByCord_146 rfl rfl (by rfl) ?_
      refine o_isub dX7_holdByCord_147 rfl ?_
      refine o_iadd dX7_holdByCord_148 rfl ?_
      refine o_put cl_X7_54 cp_X7_8 dX7_holdByCord_149 rfl (by decide) (by rfl) (by rfl) fitI ?_
      refine o_aload_n dX7_holdByCord_152 rfl rfl (by rfl) ?_
      refine o_dup dX7_holdByCord_153 rfl rfl ?_
      refine o_getI cl_X7_57 dX7_holdByCord_154 rfl (by decide) (by rfl) (by rfl) ?_
      refine o_iload dX7_holdByCord_157 rfl (by rfl) ?_
      refine o_iload_n dX7_holdByCord_159 rfl rfl (by rfl) ?_
      refine o_isub dX7_holdByCord_160 rfl ?_
      refine o_iadd dX7_holdByCord_161 rfl ?_
      refine o_put cl_X7_57 cp_X7_9 dX7_holdByCord_162 rfl (by decide) (by rfl) (by rfl) fitI ?_
      refine o_aload_n dX7_holdByCord_165 rfl rfl (by rfl) ?_
      refine o_iconst (v := 0) dX7_holdByCord_166 rfl (by decide) ?_
      refine o_put cl_X7_60 cp_X7_10 dX7_holdByCord_167 rfl (by decide) (by rfl) (by rfl) fitI ?_
      refine o_aload_n dX7_holdByCord_170 rfl rfl (by rfl) ?_
      refine o_aload_n dX7_holdByCord_171 rfl rfl (by rfl) ?_
      refine o_getI cl_X7_54 dX7_holdByCord_172 rfl (by decide) (by rfl) (by rfl) ?_
      refine o_aload_n dX7_holdByCord_175 rfl rfl (by rfl) ?_
      refine o_getC (q := 54) cl_X7_26 dX7_holdByCord_176 rfl (by decide) (by rfl) (by rfl) ?_
      refine o_getI cl_X7_111 dX7_holdByCord_179 rfl (by decide) (by rfl) (by rfl) ?_
      refine o_isub dX7_holdByCord_182 rfl ?_
      refine o_iconst (v := 3) dX7_holdByCord_183 rfl (by decide) ?_
      refine o_idiv dX7_holdByCord_184 rfl (by decide) ?_
      refine o_put cl_X7_63 cp_X7_11 dX7_holdByCord_185 rfl (by decide) (by rfl) (by rfl) fitI ?_
      refine o_aload_n dX7_holdByCord_188 rfl rfl (by rfl) ?_
      refine o_dup dX7_holdByCord_189 rfl rfl ?_
      refine o_getI cl_X7_78 dX7_holdByCord_190 rfl (by decide) (by rfl) (by rfl) ?_
      refine o_iconst (v := 1) dX7_holdByCord_193 rfl (by decide) ?_
      refine o_iadd dX7_holdByCord_194 rfl ?_
      refine o_put cl_X7_78 cp_X7_16 dX7_holdByCord_195 rfl (by decide) (by rfl) (by rfl) fitI ?_
      exact o_vret hq dX7_holdByCord_198 ⟨fun q hq => by simp [upF, upM, hq], fun j a b c d e f g h => by simp [upF, upM, upd, a, b, c, d, e, f, g, h], Or.inl ⟨hT, by unfold hPx hPy; rw [hrt]; exact ⟨rfl, rfl, rfl, rfl, rfl, rfl, rfl, rfl⟩⟩⟩
    · skip
      exact absurd c60 (by decide)
set_option maxHeartbeats 4000000 in
set_option maxRecDepth 100000 in
theorem c_X7_comeDownOn (mu : Mu) (nc i : Nat) (hO : TOK mu 3 4 5) (hz : nc ≤ 4) (ez : mu 3 2 = nI nc) (hiz : i < nc) : ConV yX7_comeDownOn cX7_comeDownOn 6 1 [vC 53, vI (nI i)] mu (fun mu2 => (∀ q, q ≠ 53 → mu2 q = mu q) ∧ Land (mu 2 2) (cupC mu i) (mu 54 7) (mu 54 5) (nI i) (mu 53) (mu2 53)) := by
  refine conV_of (own := RX7) (by decide) rfl (Nat.le_of_ble_eq_true rfl) (fun X g hq => ?_)
  show WA X g RX7 6 cX7_comeDownOn 0 [(0, vC 53), (1, vI (nI i))] [] mu
  have J44 : ∀ (b3 : Int32), ((b3 = 1 ∧ ¬ mu (3 + 2 + i) 2 < ab (mu 53 6 - mu 54 7 - mu (3 + 2 + i) 0)) ∨ (b3 = 0 ∧ mu (3 + 2 + i) 2 < ab (mu 53 6 - mu 54 7 - mu (3 + 2 + i) 0))) → WA X g RX7 6 cX7_comeDownOn 44 [(0, vC 53), (1, vI (nI i)), (2, vC 3)] [vI b3] mu := by
    intro b3 hb3
    refine o_istore_n (L' := [(0, vC 53), (1, vI (nI i)), (2, vC 3), (3, vI b3)]) dX7_comeDownOn_44 rfl rfl (by decide) (by rfl) (by rfl) ?_
    have J77 : ∀ (b4 : Int32), ((b4 = 1 ∧ ¬ mu 2 2 < ab (mu 53 8 - mu 54 5)) ∨ (b4 = 0 ∧ mu 2 2 < ab (mu 53 8 - mu 54 5))) → WA X g RX7 6 cX7_comeDownOn 77 [(0, vC 53), (1, vI (nI i)), (2, vC 3), (3, vI b3)] [vI b4] mu := by
      intro b4 hb4
      refine o_istore (L' := [(0, vC 53), (1, vI (nI i)), (2, vC 3), (3, vI b3), (4, vI b4)]) dX7_comeDownOn_77 rfl (by decide) (by rfl) (by rfl) ?_
      have J108 : ∀ (b5 : Int32), ((b5 = 1 ∧ (mu 53 10 = 15 ∨ mu 53 10 = 0 ∨ mu 53 10 = 1)) ∨ (b5 = 0 ∧ ¬ (mu 53 10 = 15 ∨ mu 53 10 = 0 ∨ mu 53 10 = 1))) → WA X g RX7 6 cX7_comeDownOn 108 [(0, vC 53), (1, vI (nI i)), (2, vC 3), (3, vI b3), (4, vI b4)] [vI b5] mu := by
        intro b5 hb5
        refine o_istore (L' := [(0, vC 53), (1, vI (nI i)), (2, vC 3), (3, vI b3), (4, vI b4), (5, vI b5)]) dX7_comeDownOn_108 rfl (by decide) (by rfl) (by rfl) ?_
        refine o_iload_n dX7_comeDownOn_110 rfl rfl (by rfl) ?_
        refine o_if_eq (tgt := 141) dX7_comeDownOn_111 (by decide) rfl (fun (c111 : b3 = 0) => ?_) (fun (c111 : ¬ b3 = 0) => ?_)
        · skip
          refine o_aload_n dX7_comeDownOn_141 rfl rfl (by rfl) ?_
          refine o_dup dX7_comeDownOn_142 rfl rfl ?_
          refine o_getI cl_X7_75 dX7_comeDownOn_143 rfl (by decide) (by rfl) (by rfl) ?_
          refine o_iconst (v := 1) dX7_comeDownOn_146 rfl (by decide) ?_
          refine o_iadd dX7_comeDownOn_147 rfl ?_
          refine o_put cl_X7_75 cp_X7_15 dX7_comeDownOn_148 rfl (by decide) (by rfl) (by rfl) fitI ?_
          refine o_aload_n dX7_comeDownOn_151 rfl rfl (by rfl) ?_
          refine o_aload_n dX7_comeDownOn_152 rfl rfl (by rfl) ?_
          refine o_getI cl_X7_57 dX7_comeDownOn_153 rfl (by decide) (by rfl) (by rfl) ?_
          refine o_mabs (d := 0) mt_X7_105 hq.2.2.2 dX7_comeDownOn_156 rfl (Nat.le_of_ble_eq_true rfl) ?_
          refine o_iconst (v := 2) dX7_comeDownOn_159 rfl (by decide) ?_
          refine o_idiv dX7_comeDownOn_160 rfl (by decide) ?_
          refine o_put cl_X7_57 cp_X7_9 dX7_comeDownOn_161 rfl (by decide) (by rfl) (by rfl) fitI ?_
          exact o_vret hq dX7_comeDownOn_164 ⟨fun q hq => by simp [upF, upM, hq], fun j a b c => by simp [upF, upM, upd, a, c], Or.inr ⟨fun h => h.1 (hb3.resolve_left (fun h => by rw [h.1] at c111; exact absurd c111 (by decide))).2, rfl, rfl, rfl⟩⟩
        · skip
          refine o_iload dX7_comeDownOn_114 rfl (by rfl) ?_
          refine o_if_eq (tgt := 141) dX7_comeDownOn_116 (by decide) rfl (fun (c116 : b4 = 0) => ?_) (fun (c116 : ¬ b4 = 0) => ?_)
          · skip
            refine o_aload_n dX7_comeDownOn_141 rfl rfl (by rfl) ?_
            refine o_dup dX7_comeDownOn_142 rfl rfl ?_
            refine o_getI cl_X7_75 dX7_comeDownOn_143 rfl (by decide) (by rfl) (by rfl) ?_
            refine o_iconst (v := 1) dX7_comeDownOn_146 rfl (by decide) ?_
            refine o_iadd dX7_comeDownOn_147 rfl ?_
            refine o_put cl_X7_75 cp_X7_15 dX7_comeDownOn_148 rfl (by decide) (by rfl) (by rfl) fitI ?_
            refine o_aload_n dX7_comeDownOn_151 rfl rfl (by rfl) ?_
            refine o_aload_n dX7_comeDownOn_152 rfl rfl (by rfl) ?_
            refine o_getI cl_X7_57 dX7_comeDownOn_153 rfl (by decide) (by rfl) (by rfl) ?_
            refine o_mabs (d := 0) mt_X7_105 hq.2.2.2 dX7_comeDownOn_156 rfl (Nat.le_of_ble_eq_true rfl) ?_
            refine o_iconst (v := 2) dX7_comeDownOn_159 rfl (by decide) ?_
            refine o_idiv dX7_comeDownOn_160 rfl (by decide) ?_
            refine o_put cl_X7_57 cp_X7_9 dX7_comeDownOn_161 rfl (by decide) (by rfl) (by rfl) fitI ?_
            exact o_vret hq dX7_comeDownOn_164 ⟨fun q hq => by simp [upF, upM, hq], fun j a b c => by simp [upF, upM, upd, a, c], Or.inr ⟨fun h => h.2.1 (hb4.resolve_left (fun h => by rw [h.1] at c116; exact absurd c116 (by decide))).2, rfl, rfl, rfl⟩⟩
          · skip
            refine o_aload_n dX7_comeDownOn_119 rfl rfl (by rfl) ?_
            refine o_iload_n dX7_comeDownOn_120 rfl rfl (by rfl) ?_
            refine o_iconst (v := 4) dX7_comeDownOn_121 rfl (by decide) ?_
            refine o_callV cs_X6_get cv_X7_85 (c_X6_get 3 4 5 tab3 _ hO (nI i) 4) hq.2.2.2 (Nat.le_of_ble_eq_true rfl) dX7_comeDownOn_122 rfl (by decide) (by rfl) (by rfl) (by rfl) rfl rfl (Nat.le_of_ble_eq_true rfl) (fun r1 mu1 h1 => ?_)
            obtain ⟨em, h1⟩ := h1
            rw [em]
            have h1 := h1.trans (tget_in (j := 4) ez hO.1 hiz (by omega) (by omega) (by omega))
            subst h1
            refine o_if_eq (tgt := 133) dX7_comeDownOn_125 (by decide) rfl (fun (c125 : (mu (3 + 2 + i) 4) = 0) => ?_) (fun (c125 : ¬ (mu (3 + 2 + i) 4) = 0) => ?_)
            · skip
              refine o_aload_n dX7_comeDownOn_133 rfl rfl (by rfl) ?_
              refine o_iload_n dX7_comeDownOn_134 rfl rfl (by rfl) ?_
              refine o_put cl_X7_72 cp_X7_14 dX7_comeDownOn_135 rfl (by decide) (by rfl) (by rfl) fitI ?_
              refine o_goto (tgt := 164) dX7_comeDownOn_138 (by decide) ?_
              exact o_vret hq dX7_comeDownOn_164 ⟨fun q hq => by simp [upF, upM, hq], fun j a b c => by simp [upF, upM, upd, b], Or.inl ⟨⟨(hb3.resolve_right (fun h => c111 h.1)).2, (hb4.resolve_right (fun h => c116 h.1)).2, Or.inl c125⟩, rfl, rfl, rfl⟩⟩
            · skip
              refine o_iload dX7_comeDownOn_128 rfl (by rfl) ?_
              refine o_if_eq (tgt := 141) dX7_comeDownOn_130 (by decide) rfl (fun (c130 : b5 = 0) => ?_) (fun (c130 : ¬ b5 = 0) => ?_)
              · skip
                refine o_aload_n dX7_comeDownOn_141 rfl rfl (by rfl) ?_
                refine o_dup dX7_comeDownOn_142 rfl rfl ?_
                refine o_getI cl_X7_75 dX7_comeDownOn_143 rfl (by decide) (by rfl) (by rfl) ?_
                refine o_iconst (v := 1) dX7_comeDownOn_146 rfl (by decide) ?_
                refine o_iadd dX7_comeDownOn_147 rfl ?_
                refine o_put cl_X7_75 cp_X7_15 dX7_comeDownOn_148 rfl (by decide) (by rfl) (by rfl) fitI ?_
                refine o_aload_n dX7_comeDownOn_151 rfl rfl (by rfl) ?_
                refine o_aload_n dX7_comeDownOn_152 rfl rfl (by rfl) ?_
                refine o_getI cl_X7_57 dX7_comeDownOn_153 rfl (by decide) (by rfl) (by rfl) ?_
                refine o_mabs (d := 0) mt_X7_105 hq.2.2.2 dX7_comeDownOn_156 rfl (Nat.le_of_ble_eq_true rfl) ?_
                refine o_iconst (v := 2) dX7_comeDownOn_159 rfl (by decide) ?_
                refine o_idiv dX7_comeDownOn_160 rfl (by decide) ?_
                refine o_put cl_X7_57 cp_X7_9 dX7_comeDownOn_161 rfl (by decide) (by rfl) (by rfl) fitI ?_
                exact o_vret hq dX7_comeDownOn_164 ⟨fun q hq => by simp [upF, upM, hq], fun j a b c => by simp [upF, upM, upd, a, c], Or.inr ⟨fun h => h.2.2.elim c125 (hb5.resolve_left (fun h => by rw [h.1] at c130; exact absurd c130 (by decide))).2, rfl, rfl, rfl⟩⟩
              · skip
                refine o_aload_n dX7_comeDownOn_133 rfl rfl (by rfl) ?_
                refine o_iload_n dX7_comeDownOn_134 rfl rfl (by rfl) ?_
                refine o_put cl_X7_72 cp_X7_14 dX7_comeDownOn_135 rfl (by decide) (by rfl) (by rfl) fitI ?_
                refine o_goto (tgt := 164) dX7_comeDownOn_138 (by decide) ?_
                exact o_vret hq dX7_comeDownOn_164 ⟨fun q hq => by simp [upF, upM, hq], fun j a b c => by simp [upF, upM, upd, b], Or.inl ⟨⟨(hb3.resolve_right (fun h => c111 h.1)).2, (hb4.resolve_right (fun h => c116 h.1)).2, Or.inr (hb5.resolve_right (fun h => c130 h.1)).2⟩, rfl, rfl, rfl⟩⟩
      refine o_aload_n dX7_comeDownOn_79 rfl rfl (by rfl) ?_
      refine o_getI cl_X7_60 dX7_comeDownOn_80 rfl (by decide) (by rfl) (by rfl) ?_
      refine o_bipush (v := 15) dX7_comeDownOn_83 rfl (by decide) ?_
      refine o_icmp_eq (tgt := 103) dX7_comeDownOn_85 (by decide) rfl (fun (c85 : (mu 53 10) = 15) => ?_) (fun (c85 : ¬ (mu 53 10) = 15) => ?_)
      · skip
        refine o_iconst (v := 1) dX7_comeDownOn_103 rfl (by decide) ?_
        refine o_goto (tgt := 108) dX7_comeDownOn_104 (by decide) ?_
        exact J108 1 (Or.inl ⟨rfl, Or.inl c85⟩)
      · skip
        refine o_aload_n dX7_comeDownOn_88 rfl rfl (by rfl) ?_
        refine o_getI cl_X7_60 dX7_comeDownOn_89 rfl (by decide) (by rfl) (by rfl) ?_
        refine o_if_eq (tgt := 103) dX7_comeDownOn_92 (by decide) rfl (fun (c92 : (mu 53 10) = 0) => ?_) (fun (c92 : ¬ (mu 53 10) = 0) => ?_)
        · skip
          refine o_iconst (v := 1) dX7_comeDownOn_103 rfl (by decide) ?_
          refine o_goto (tgt := 108) dX7_comeDownOn_104 (by decide) ?_
          exact J108 1 (Or.inl ⟨rfl, Or.inr (Or.inl c92)⟩)
        · skip
          refine o_aload_n dX7_comeDownOn_95 rfl rfl (by rfl) ?_
          refine o_getI cl_X7_60 dX7_comeDownOn_96 rfl (by decide) (by rfl) (by rfl) ?_
          refine o_iconst (v := 1) dX7_comeDownOn_99 rfl (by decide) ?_
          refine o_icmp_ne (tgt := 107) dX7_comeDownOn_100 (by decide) rfl (fun (c100 : ¬ (mu 53 10) = 1) => ?_) (fun (c100 : (mu 53 10) = 1) => ?_)
          · skip
            refine o_iconst (v := 0) dX7_comeDownOn_107 rfl (by decide) ?_
            exact J108 0 (Or.inr ⟨rfl, fun h => by simp [c85, c92, c100] at h⟩)
          · skip
            refine o_iconst (v := 1) dX7_comeDownOn_103 rfl (by decide) ?_
            refine o_goto (tgt := 108) dX7_comeDownOn_104 (by decide) ?_
            exact J108 1 (Or.inl ⟨rfl, Or.inr (Or.inr c100)⟩)
    refine o_aload_n dX7_comeDownOn_45 rfl rfl (by rfl) ?_
    refine o_getI cl_X7_54 dX7_comeDownOn_46 rfl (by decide) (by rfl) (by rfl) ?_
    refine o_aload_n dX7_comeDownOn_49 rfl rfl (by rfl) ?_
    refine o_getC (q := 54) cl_X7_26 dX7_comeDownOn_50 rfl (by decide) (by rfl) (by rfl) ?_
    refine o_getI cl_X7_111 dX7_comeDownOn_53 rfl (by decide) (by rfl) (by rfl) ?_
    refine o_isub dX7_comeDownOn_56 rfl ?_
    refine o_mabs (d := 0) mt_X7_105 hq.2.2.2 dX7_comeDownOn_57 rfl (Nat.le_of_ble_eq_true rfl) ?_
    refine o_aload_n dX7_comeDownOn_60 rfl rfl (by rfl) ?_
    refine o_getC (q := 1) cl_X7_9 dX7_comeDownOn_61 rfl (by decide) (by rfl) (by rfl) ?_
    refine o_getC (q := 2) cl_X7_81 dX7_comeDownOn_64 rfl (by decide) (by rfl) (by rfl) ?_
    refine o_iconst (v := 2) dX7_comeDownOn_67 rfl (by decide) ?_
    refine o_iald dX7_comeDownOn_68 rfl (by decide) (by rfl) (by rfl) (vp_in_nI (n := 2) (by decide) (by decide)) ?_
    refine o_icmp_gt (tgt := 76) dX7_comeDownOn_69 (by decide) rfl (fun (c69 : (mu 2 2) < (ab ((mu 53 8) - (mu 54 5)))) => ?_) (fun (c69 : ¬ (mu 2 2) < (ab ((mu 53 8) - (mu 54 5)))) => ?_)
    · skip
      refine o_iconst (v := 0) dX7_comeDownOn_76 rfl (by decide) ?_
      exact J77 0 (Or.inr ⟨rfl, c69⟩)
    · skip
      refine o_iconst (v := 1) dX7_comeDownOn_72 rfl (by decide) ?_
      refine o_goto (tgt := 77) dX7_comeDownOn_73 (by decide) ?_
      exact J77 1 (Or.inl ⟨rfl, c69⟩)
  refine o_aload_n dX7_comeDownOn_0 rfl rfl (by rfl) ?_
  refine o_getC (q := 1) cl_X7_9 dX7_comeDownOn_1 rfl (by decide) (by rfl) (by rfl) ?_
  refine o_getC (q := 3) cl_X7_135 dX7_comeDownOn_4 rfl (by decide) (by rfl) (by rfl) ?_
  refine o_astore_n (L' := [(0, vC 53), (1, vI (nI i)), (2, vC 3)]) dX7_comeDownOn_7 rfl rfl (by decide) (by rfl) (by rfl) ?_
  refine o_aload_n dX7_comeDownOn_8 rfl rfl (by rfl) ?_
  refine o_getI cl_X7_48 dX7_comeDownOn_9 rfl (by decide) (by rfl) (by rfl) ?_
  refine o_aload_n dX7_comeDownOn_12 rfl rfl (by rfl) ?_
  refine o_getC (q := 54) cl_X7_26 dX7_comeDownOn_13 rfl (by decide) (by rfl) (by rfl) ?_
  refine o_getI cl_X7_134 dX7_comeDownOn_16 rfl (by decide) (by rfl) (by rfl) ?_
  refine o_isub dX7_comeDownOn_19 rfl ?_
  refine o_aload_n dX7_comeDownOn_20 rfl rfl (by rfl) ?_
  refine o_iload_n dX7_comeDownOn_21 rfl rfl (by rfl) ?_
  refine o_iconst (v := 0) dX7_comeDownOn_22 rfl (by decide) ?_
  refine o_callV cs_X6_get cv_X7_85 (c_X6_get 3 4 5 tab3 _ hO (nI i) 0) hq.2.2.2 (Nat.le_of_ble_eq_true rfl) dX7_comeDownOn_23 rfl (by decide) (by rfl) (by rfl) (by rfl) rfl rfl (Nat.le_of_ble_eq_true rfl) (fun r2 mu2 h2 => ?_)
  obtain ⟨em, h2⟩ := h2
  rw [em]
  have h2 := h2.trans (tget_in (j := 0) ez hO.1 hiz (by omega) (by omega) (by omega))
  subst h2
  refine o_isub dX7_comeDownOn_26 rfl ?_
  refine o_mabs (d := 0) mt_X7_105 hq.2.2.2 dX7_comeDownOn_27 rfl (Nat.le_of_ble_eq_true rfl) ?_
  refine o_aload_n dX7_comeDownOn_30 rfl rfl (by rfl) ?_
  refine o_iload_n dX7_comeDownOn_31 rfl rfl (by rfl) ?_
  refine o_iconst (v := 2) dX7_comeDownOn_32 rfl (by decide) ?_
  refine o_callV cs_X6_get cv_X7_85 (c_X6_get 3 4 5 tab3 _ hO (nI i) 2) hq.2.2.2 (Nat.le_of_ble_eq_true rfl) dX7_comeDownOn_33 rfl (by decide) (by rfl) (by rfl) (by rfl) rfl rfl (Nat.le_of_ble_eq_true rfl) (fun r3 mu3 h3 => ?_)
  obtain ⟨em, h3⟩ := h3
  rw [em]
  have h3 := h3.trans (tget_in (j := 2) ez hO.1 hiz (by omega) (by omega) (by omega))
  subst h3
  refine o_icmp_gt (tgt := 43) dX7_comeDownOn_36 (by decide) rfl (fun (c36 : (mu (3 + 2 + i) 2) < (ab (((mu 53 6) - (mu 54 7)) - (mu (3 + 2 + i) 0)))) => ?_) (fun (c36 : ¬ (mu (3 + 2 + i) 2) < (ab (((mu 53 6) - (mu 54 7)) - (mu (3 + 2 + i) 0)))) => ?_)
  · skip
    refine o_iconst (v := 0) dX7_comeDownOn_43 rfl (by decide) ?_
    exact J44 0 (Or.inr ⟨rfl, c36⟩)
  · skip
    refine o_iconst (v := 1) dX7_comeDownOn_39 rfl (by decide) ?_
    refine o_goto (tgt := 44) dX7_comeDownOn_40 (by decide) ?_
    exact J44 1 (Or.inl ⟨rfl, c36⟩)
def tbeg (cord : Int32) (j : Nat) : Int32 := if j = 2 then cord else if j = 3 then 1 else if j = 4 then -1 else if j = 7 then -cord else if j = 12 then 1 else if j = 14 then -1 else 0
theorem v17 {f g : Vc} (h2 : f 2 = g 2) (h3 : f 3 = g 3) (h4 : f 4 = g 4) (h5 : f 5 = g 5) (h6 : f 6 = g 6) (h7 : f 7 = g 7) (h8 : f 8 = g 8) (h9 : f 9 = g 9) (h10 : f 10 = g 10) (h11 : f 11 = g 11) (h12 : f 12 = g 12) (h13 : f 13 = g 13) (h14 : f 14 = g 14) (h15 : f 15 = g 15) (h16 : f 16 = g 16) : ∀ j, 1 < j → j < 17 → f j = g j := by
  intro j a b
  match j, a, b with
  | 2, _, _ => exact h2
  | 3, _, _ => exact h3
  | 4, _, _ => exact h4
  | 5, _, _ => exact h5
  | 6, _, _ => exact h6
  | 7, _, _ => exact h7
  | 8, _, _ => exact h8
  | 9, _, _ => exact h9
  | 10, _, _ => exact h10
  | 11, _, _ => exact h11
  | 12, _, _ => exact h12
  | 13, _, _ => exact h13
  | 14, _, _ => exact h14
  | 15, _, _ => exact h15
  | 16, _, _ => exact h16
  | j + 17, _, b => omega
set_option maxHeartbeats 4000000 in
set_option maxRecDepth 100000 in
theorem c_X7_begin (mu : Mu) (cord u v : Int32) : ConV yX7_begin cX7_begin 4 1 [vC 53, vI cord, vI u, vI v] mu (fun mu2 => (∀ q, q ≠ 53 → q ≠ 54 → mu2 q = mu q) ∧ (∀ j, 0 < j → j < 9 → mu2 54 j = hbeg u v j) ∧ ∀ j, 1 < j → j < 17 → mu2 53 j = tbeg cord j) := by
  refine conV_of (own := RX7) (by decide) rfl (Nat.le_of_ble_eq_true rfl) (fun X g hq => ?_)
  show WA X g RX7 4 cX7_begin 0 [(0, vC 53), (1, vI cord), (2, vI u), (3, vI v)] [] mu
  refine o_aload_n dX7_begin_0 rfl rfl (by rfl) ?_
  refine o_getC (q := 54) cl_X7_26 dX7_begin_1 rfl (by decide) (by rfl) (by rfl) ?_
  refine o_iload_n dX7_begin_4 rfl rfl (by rfl) ?_
  refine o_iload_n dX7_begin_5 rfl rfl (by rfl) ?_
  refine o_callVV cs_X1_begin cv_X7_30 (c_X1_begin _ u v) hq.2.2.2 (Nat.le_of_ble_eq_true rfl) dX7_begin_6 rfl (by decide) (by rfl) (by rfl) (by rfl) rfl rfl (Nat.le_of_ble_eq_true rfl) (fun m6 h6 => ?_)
  refine o_aload_n dX7_begin_9 rfl rfl (by rfl) ?_
  refine o_iload_n dX7_begin_10 rfl rfl (by rfl) ?_
  refine o_put cl_X7_34 cp_X7_2 dX7_begin_11 rfl (by decide) (by rfl) (by rfl) fitI ?_
  refine o_aload_n dX7_begin_14 rfl rfl (by rfl) ?_
  refine o_iconst (v := 1) dX7_begin_15 rfl (by decide) ?_
  refine o_put cl_X7_38 cp_X7_3 dX7_begin_16 rfl (by decide) (by rfl) (by rfl) (fitZ (Or.inr rfl)) ?_
  refine o_aload_n dX7_begin_19 rfl rfl (by rfl) ?_
  refine o_iconst (v := (-1)) dX7_begin_20 rfl (by decide) ?_
  refine o_put cl_X7_42 cp_X7_4 dX7_begin_21 rfl (by decide) (by rfl) (by rfl) fitI ?_
  refine o_aload_n dX7_begin_24 rfl rfl (by rfl) ?_
  refine o_iconst (v := 0) dX7_begin_25 rfl (by decide) ?_
  refine o_put cl_X7_45 cp_X7_5 dX7_begin_26 rfl (by decide) (by rfl) (by rfl) fitI ?_
  refine o_aload_n dX7_begin_29 rfl rfl (by rfl) ?_
  refine o_iconst (v := 0) dX7_begin_30 rfl (by decide) ?_
  refine o_put cl_X7_48 cp_X7_6 dX7_begin_31 rfl (by decide) (by rfl) (by rfl) fitI ?_
  refine o_aload_n dX7_begin_34 rfl rfl (by rfl) ?_
  refine o_iload_n dX7_begin_35 rfl rfl (by rfl) ?_
  refine o_ineg dX7_begin_36 rfl ?_
  refine o_put cl_X7_51 cp_X7_7 dX7_begin_37 rfl (by decide) (by rfl) (by rfl) fitI ?_
  refine o_aload_n dX7_begin_40 rfl rfl (by rfl) ?_
  refine o_iconst (v := 0) dX7_begin_41 rfl (by decide) ?_
  refine o_put cl_X7_54 cp_X7_8 dX7_begin_42 rfl (by decide) (by rfl) (by rfl) fitI ?_
  refine o_aload_n dX7_begin_45 rfl rfl (by rfl) ?_
  refine o_iconst (v := 0) dX7_begin_46 rfl (by decide) ?_
  refine o_put cl_X7_57 cp_X7_9 dX7_begin_47 rfl (by decide) (by rfl) (by rfl) fitI ?_
  refine o_aload_n dX7_begin_50 rfl rfl (by rfl) ?_
  refine o_iconst (v := 0) dX7_begin_51 rfl (by decide) ?_
  refine o_put cl_X7_60 cp_X7_10 dX7_begin_52 rfl (by decide) (by rfl) (by rfl) fitI ?_
  refine o_aload_n dX7_begin_55 rfl rfl (by rfl) ?_
  refine o_iconst (v := 0) dX7_begin_56 rfl (by decide) ?_
  refine o_put cl_X7_63 cp_X7_11 dX7_begin_57 rfl (by decide) (by rfl) (by rfl) fitI ?_
  refine o_aload_n dX7_begin_60 rfl rfl (by rfl) ?_
  refine o_iconst (v := 1) dX7_begin_61 rfl (by decide) ?_
  refine o_put cl_X7_66 cp_X7_12 dX7_begin_62 rfl (by decide) (by rfl) (by rfl) (fitZ (Or.inr rfl)) ?_
  refine o_aload_n dX7_begin_65 rfl rfl (by rfl) ?_
  refine o_iconst (v := 0) dX7_begin_66 rfl (by decide) ?_
  refine o_put cl_X7_69 cp_X7_13 dX7_begin_67 rfl (by decide) (by rfl) (by rfl) fitI ?_
  refine o_aload_n dX7_begin_70 rfl rfl (by rfl) ?_
  refine o_iconst (v := (-1)) dX7_begin_71 rfl (by decide) ?_
  refine o_put cl_X7_72 cp_X7_14 dX7_begin_72 rfl (by decide) (by rfl) (by rfl) fitI ?_
  refine o_aload_n dX7_begin_75 rfl rfl (by rfl) ?_
  refine o_iconst (v := 0) dX7_begin_76 rfl (by decide) ?_
  refine o_put cl_X7_75 cp_X7_15 dX7_begin_77 rfl (by decide) (by rfl) (by rfl) fitI ?_
  refine o_aload_n dX7_begin_80 rfl rfl (by rfl) ?_
  refine o_iconst (v := 0) dX7_begin_81 rfl (by decide) ?_
  refine o_put cl_X7_78 cp_X7_16 dX7_begin_82 rfl (by decide) (by rfl) (by rfl) fitI ?_
  exact o_vret hq dX7_begin_85 ⟨fun q a b => by simp [upF, upM, a, h6.1 q b], fun j a b => by simp [upF, upM, h6.2 j a b], by apply v17 <;> simp [upF, upM, upd, tbeg]⟩
set_option maxHeartbeats 4000000 in
set_option maxRecDepth 100000 in
theorem c_X7_meetNothing (mu : Mu) : ConV yX7_meetNothing cX7_meetNothing 1 0 [vC 53] mu (fun mu2 => mu2 = upF mu 53 3 0) := by
  refine conV_of (own := RX7) (by decide) rfl (Nat.le_of_ble_eq_true rfl) (fun X g hq => ?_)
  show WA X g RX7 1 cX7_meetNothing 0 [(0, vC 53)] [] mu
  refine o_aload_n dX7_meetNothing_0 rfl rfl (by rfl) ?_
  refine o_iconst (v := 0) dX7_meetNothing_1 rfl (by decide) ?_
  refine o_put cl_X7_38 cp_X7_3 dX7_meetNothing_2 rfl (by decide) (by rfl) (by rfl) (fitZ (Or.inl rfl)) ?_
  exact o_vret hq dX7_meetNothing_5 rfl
set_option maxHeartbeats 4000000 in
set_option maxRecDepth 100000 in
theorem c_X7_isSoft (mu : Mu) (pace : Int32) : Con yX7_isSoft cX7_isSoft 2 (some .boolean) 1 [vC 53, vI pace] mu (fun r mu2 => mu2 = mu ∧ r = if ¬ pace < ab (mu 53 8 - mu 54 5) ∧ ¬ pace < ab (mu 53 9 - mu 54 6) then 1 else 0) := by
  refine con_of (own := RX7) (by decide) rfl (Nat.le_of_ble_eq_true rfl) (fun X g hq => ?_)
  show WA X g RX7 2 cX7_isSoft 0 [(0, vC 53), (1, vI pace)] [] mu
  refine o_aload_n dX7_isSoft_0 rfl rfl (by rfl) ?_
  refine o_getI cl_X7_54 dX7_isSoft_1 rfl (by decide) (by rfl) (by rfl) ?_
  refine o_aload_n dX7_isSoft_4 rfl rfl (by rfl) ?_
  refine o_getC (q := 54) cl_X7_26 dX7_isSoft_5 rfl (by decide) (by rfl) (by rfl) ?_
  refine o_getI cl_X7_111 dX7_isSoft_8 rfl (by decide) (by rfl) (by rfl) ?_
  refine o_isub dX7_isSoft_11 rfl ?_
  refine o_mabs (d := 0) mt_X7_105 hq.2.2.2 dX7_isSoft_12 rfl (Nat.le_of_ble_eq_true rfl) ?_
  refine o_iload_n dX7_isSoft_15 rfl rfl (by rfl) ?_
  refine o_icmp_gt (tgt := 42) dX7_isSoft_16 (by decide) rfl (fun (c16 : pace < (ab ((mu 53 8) - (mu 54 5)))) => ?_) (fun (c16 : ¬ pace < (ab ((mu 53 8) - (mu 54 5)))) => ?_)
  · skip
    refine o_iconst (v := 0) dX7_isSoft_42 rfl (by decide) ?_
    exact o_zret hq dX7_isSoft_43 (Or.inl rfl) ⟨rfl, by rw [if_neg (fun h => h.1 c16)]⟩
  · skip
    refine o_aload_n dX7_isSoft_19 rfl rfl (by rfl) ?_
    refine o_getI cl_X7_57 dX7_isSoft_20 rfl (by decide) (by rfl) (by rfl) ?_
    refine o_aload_n dX7_isSoft_23 rfl rfl (by rfl) ?_
    refine o_getC (q := 54) cl_X7_26 dX7_isSoft_24 rfl (by decide) (by rfl) (by rfl) ?_
    refine o_getI cl_X7_114 dX7_isSoft_27 rfl (by decide) (by rfl) (by rfl) ?_
    refine o_isub dX7_isSoft_30 rfl ?_
    refine o_mabs (d := 0) mt_X7_105 hq.2.2.2 dX7_isSoft_31 rfl (Nat.le_of_ble_eq_true rfl) ?_
    refine o_iload_n dX7_isSoft_34 rfl rfl (by rfl) ?_
    refine o_icmp_gt (tgt := 42) dX7_isSoft_35 (by decide) rfl (fun (c35 : pace < (ab ((mu 53 9) - (mu 54 6)))) => ?_) (fun (c35 : ¬ pace < (ab ((mu 53 9) - (mu 54 6)))) => ?_)
    · skip
      refine o_iconst (v := 0) dX7_isSoft_42 rfl (by decide) ?_
      exact o_zret hq dX7_isSoft_43 (Or.inl rfl) ⟨rfl, by rw [if_neg (fun h => h.2 c35)]⟩
    · skip
      refine o_iconst (v := 1) dX7_isSoft_38 rfl (by decide) ?_
      refine o_goto (tgt := 43) dX7_isSoft_39 (by decide) ?_
      exact o_zret hq dX7_isSoft_43 (Or.inr rfl) ⟨rfl, by rw [if_pos ⟨c16, c35⟩]⟩
