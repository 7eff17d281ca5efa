/-! ===== the reference: copy, film, filmed ===== -/
theorem ix3 {a i k : Nat} : 24 * nI a + nI i + nI k = nI (24 * a + i + k) := by rw [show (24 : Int32) = nI 24 from rfl, pk_mul, nI_add, nI_add]
theorem ix4 {a i k : Nat} : 24 * nI a + nI i + 2 * nI k = nI (24 * a + i + 2 * k) := by rw [show (24 : Int32) = nI 24 from rfl, show (2 : Int32) = nI 2 from rfl, pk_mul, pk_mul, nI_add, nI_add]
theorem fit_n0 {z i n : Int32} (h : fitB z i n = true) : ¬ n < 0 := (of_decide_eq_true h).2.1
theorem refS_f {mu : Mu} {a : Nat} {i n : Int32} (h0 : ¬ mu 109 a < 0) : refS mu a (mu 109 a) i n < 0 ↔ fitB (mu 110 a) i n = false := by
  unfold refS
  rw [if_neg h0, if_neg (fun h => h rfl)]
  cases h : fitB (mu 110 a) i n
  · rw [if_neg (by decide)]; exact ⟨fun _ => rfl, fun _ => by decide⟩
  · rw [if_pos rfl]; exact ⟨fun h => absurd h (by decide), fun h => by cases h⟩
set_option maxHeartbeats 4000000 in
set_option maxRecDepth 100000 in
theorem c_X9_copy (mu : Mu) (hH : RHs mu) (fr0 i to0 j n : Int32) : Con yX9_copy cX9_copy 7 (some .int) 2 [vC 94, vI fr0, vI i, vI to0, vI j, vI n] mu (fun r mu2 => ((inB fr0 0 3 && inB to0 0 3) = false ∧ r = -1 ∧ mu2 = mu) ∨ ((inB fr0 0 3 && inB to0 0 3) = true ∧ ∃ a b, a < 4 ∧ b < 4 ∧ fr0 = nI a ∧ to0 = nI b ∧ (((mu 109 a < 0 ∨ mu 109 b < 0) ∧ r = -11 ∧ mu2 = mu) ∨ (¬ mu 109 a < 0 ∧ ¬ mu 109 b < 0 ∧ ((¬ mu 109 a = mu 109 b ∧ r = -12 ∧ mu2 = mu) ∨ (mu 109 a = mu 109 b ∧ (((fitB (mu 110 a) i n && fitB (mu 110 b) j n) = false ∧ r = -13 ∧ mu2 = mu) ∨ ((fitB (mu 110 a) i n && fitB (mu 110 b) j n) = true ∧ r = n ∧ ∃ I J N, i = nI I ∧ j = nI J ∧ n = nI N ∧ I + N ≤ 24 ∧ J + N ≤ 24 ∧ (∀ q, q ≠ 111 → q ≠ 112 → mu2 q = mu q) ∧ (∀ t, t < N → mu2 111 (24 * b + J + t) = mu 111 (24 * a + I + t)) ∧ ∀ t, (t < 24 * b + J ∨ 24 * b + J + N ≤ t) → mu2 111 t = mu 111 t)))))))) := by
  refine con_of (own := RX9) (by decide) rfl (Nat.le_of_ble_eq_true rfl) (fun X g hq => ?_)
  show WA X g RX9 7 cX9_copy 0 [(0, vC 94), (1, vI fr0), (2, vI i), (3, vI to0), (4, vI j), (5, vI n)] [] mu
  refine o_iload_n dX9_copy_0 rfl rfl (by rfl) ?_
  refine o_callS cs_X9_isSheet ct_X9_253 (c_X9_isSheet _ fr0) hq.2.2.2 (Nat.le_of_ble_eq_true rfl) dX9_copy_1 rfl rfl rfl (Nat.le_of_ble_eq_true rfl) (fun r1 mu1 h1 => ?_)
  obtain ⟨em, h1⟩ := h1
  rw [em]
  refine o_if_eq (tgt := 14) dX9_copy_4 (by decide) rfl (fun (c4 : r1 = 0) => ?_) (fun (c4 : ¬ r1 = 0) => ?_)
  · skip
    have b4 := (if10 h1).1 c4
    refine o_iconst (v := (-1)) dX9_copy_14 rfl (by decide) ?_
    exact o_iret hq dX9_copy_15 (Or.inl ⟨by simp [b4], rfl, rfl⟩)
  · skip
    have b4 := (if10 h1).2 c4
    refine o_iload_n dX9_copy_7 rfl rfl (by rfl) ?_
    refine o_callS cs_X9_isSheet ct_X9_253 (c_X9_isSheet _ to0) hq.2.2.2 (Nat.le_of_ble_eq_true rfl) dX9_copy_8 rfl rfl rfl (Nat.le_of_ble_eq_true rfl) (fun r2 mu2 h2 => ?_)
    obtain ⟨em, h2⟩ := h2
    rw [em]
    refine o_if_ne (tgt := 16) dX9_copy_11 (by decide) rfl (fun (c11 : ¬ r2 = 0) => ?_) (fun (c11 : r2 = 0) => ?_)
    · skip
      have b11 := (if10 h2).2 c11
      obtain ⟨a, ea, -, ha⟩ := inB_nI (l := 0) (m := 3) (by decide) (by decide) b4
      obtain ⟨b, eb, -, hb⟩ := inB_nI (l := 0) (m := 3) (by decide) (by decide) b11
      rw [ea, eb]
      have eca := nI_clamp (show a < 2 ^ 31 by omega)
      have ecb := nI_clamp (show b < 2 ^ 31 by omega)
      refine o_aload_n dX9_copy_16 rfl rfl (by rfl) ?_
      refine o_getC (q := 109) cl_X9_56 dX9_copy_17 rfl (by decide) (by rfl) (by rfl) ?_
      refine o_iload_n dX9_copy_20 rfl rfl (by rfl) ?_
      refine o_iald dX9_copy_21 rfl (by decide) (by rfl) (by rfl) (vp_in_nI (by omega) (by decide)) ?_
      refine o_if_lt (tgt := 34) dX9_copy_22 (by decide) rfl (fun (c22 : (mu 109 (nI a).toNatClampNeg) < 0) => ?_) (fun (c22 : ¬ (mu 109 (nI a).toNatClampNeg) < 0) => ?_)
      · skip
        refine o_bipush (v := (-11)) dX9_copy_34 rfl (by decide) ?_
        exact o_iret hq dX9_copy_36 (Or.inr ⟨by simp [b4, b11], a, b, by omega, by omega, ea, eb, Or.inl ⟨Or.inl (by rw [eca] at c22; exact c22), rfl, rfl⟩⟩)
      · skip
        refine o_aload_n dX9_copy_25 rfl rfl (by rfl) ?_
        refine o_getC (q := 109) cl_X9_56 dX9_copy_26 rfl (by decide) (by rfl) (by rfl) ?_
        refine o_iload_n dX9_copy_29 rfl rfl (by rfl) ?_
        refine o_iald dX9_copy_30 rfl (by decide) (by rfl) (by rfl) (vp_in_nI (by omega) (by decide)) ?_
        refine o_if_ge (tgt := 37) dX9_copy_31 (by decide) rfl (fun (c31 : 0 ≤ (mu 109 (nI b).toNatClampNeg)) => ?_) (fun (c31 : ¬ 0 ≤ (mu 109 (nI b).toNatClampNeg)) => ?_)
        · skip
          refine o_aload_n dX9_copy_37 rfl rfl (by rfl) ?_
          refine o_getC (q := 109) cl_X9_56 dX9_copy_38 rfl (by decide) (by rfl) (by rfl) ?_
          refine o_iload_n dX9_copy_41 rfl rfl (by rfl) ?_
          refine o_iald dX9_copy_42 rfl (by decide) (by rfl) (by rfl) (vp_in_nI (by omega) (by decide)) ?_
          refine o_aload_n dX9_copy_43 rfl rfl (by rfl) ?_
          refine o_getC (q := 109) cl_X9_56 dX9_copy_44 rfl (by decide) (by rfl) (by rfl) ?_
          refine o_iload_n dX9_copy_47 rfl rfl (by rfl) ?_
          refine o_iald dX9_copy_48 rfl (by decide) (by rfl) (by rfl) (vp_in_nI (by omega) (by decide)) ?_
          refine o_icmp_eq (tgt := 55) dX9_copy_49 (by decide) rfl (fun (c49 : (mu 109 (nI a).toNatClampNeg) = (mu 109 (nI b).toNatClampNeg)) => ?_) (fun (c49 : ¬ (mu 109 (nI a).toNatClampNeg) = (mu 109 (nI b).toNatClampNeg)) => ?_)
          · skip
            refine o_iload dX9_copy_55 rfl (by rfl) ?_
            refine o_if_lt (tgt := 95) dX9_copy_57 (by decide) rfl (fun (c57 : n < 0) => ?_) (fun (c57 : ¬ n < 0) => ?_)
            · skip
              refine o_bipush (v := (-13)) dX9_copy_95 rfl (by decide) ?_
              exact o_iret hq dX9_copy_97 (Or.inr ⟨by simp [b4, b11], a, b, by omega, by omega, ea, eb, Or.inr ⟨by rw [eca] at c22; exact c22, by rw [ecb] at c31; exact Int32.not_lt.mpr c31, Or.inr ⟨by rw [eca, ecb] at c49; exact c49, Or.inl ⟨by cases h9 : fitB (mu 110 a) i n; rfl; exact absurd c57 (fit_n0 h9), rfl, rfl⟩⟩⟩⟩)
            · skip
              refine o_aload_n dX9_copy_60 rfl rfl (by rfl) ?_
              refine o_iload_n dX9_copy_61 rfl rfl (by rfl) ?_
              refine o_aload_n dX9_copy_62 rfl rfl (by rfl) ?_
              refine o_getC (q := 109) cl_X9_56 dX9_copy_63 rfl (by decide) (by rfl) (by rfl) ?_
              refine o_iload_n dX9_copy_66 rfl rfl (by rfl) ?_
              refine o_iald dX9_copy_67 rfl (by decide) (by rfl) (by rfl) (vp_in_nI (by omega) (by decide)) ?_
              refine o_iload_n dX9_copy_68 rfl rfl (by rfl) ?_
              refine o_iload dX9_copy_69 rfl (by rfl) ?_
              rw [eca]
              have h0a : ¬ mu 109 a < 0 := by rw [eca] at c22; exact c22
              refine o_callV cs_X9_finds cv_X9_261 (c_X9_finds _ hH a (by omega) (mu 109 a) i n c57) hq.2.2.2 (Nat.le_of_ble_eq_true rfl) dX9_copy_71 rfl (by decide) (by rfl) (by rfl) (by rfl) rfl rfl (Nat.le_of_ble_eq_true rfl) (fun rF mu3 hF => ?_)
              obtain ⟨em, hF⟩ := hF
              rw [em]
              subst hF
              refine o_if_lt (tgt := 95) dX9_copy_74 (by decide) rfl (fun (c74 : (refS mu a (mu 109 a) i n) < 0) => ?_) (fun (c74 : ¬ (refS mu a (mu 109 a) i n) < 0) => ?_)
              · skip
                refine o_bipush (v := (-13)) dX9_copy_95 rfl (by decide) ?_
                exact o_iret hq dX9_copy_97 (Or.inr ⟨by simp [b4, b11], a, b, by omega, by omega, ea, eb, Or.inr ⟨by rw [eca] at c22; exact c22, by rw [ecb] at c31; exact Int32.not_lt.mpr c31, Or.inr ⟨by rw [eca, ecb] at c49; exact c49, Or.inl ⟨by rw [(refS_f h0a).mp c74, Bool.false_and], rfl, rfl⟩⟩⟩⟩)
              · skip
                refine o_aload_n dX9_copy_77 rfl rfl (by rfl) ?_
                refine o_iload_n dX9_copy_78 rfl rfl (by rfl) ?_
                refine o_aload_n dX9_copy_79 rfl rfl (by rfl) ?_
                refine o_getC (q := 109) cl_X9_56 dX9_copy_80 rfl (by decide) (by rfl) (by rfl) ?_
                refine o_iload_n dX9_copy_83 rfl rfl (by rfl) ?_
                refine o_iald dX9_copy_84 rfl (by decide) (by rfl) (by rfl) (vp_in_nI (by omega) (by decide)) ?_
                refine o_iload dX9_copy_85 rfl (by rfl) ?_
                refine o_iload dX9_copy_87 rfl (by rfl) ?_
                rw [ecb]
                have h0b : ¬ mu 109 b < 0 := by rw [ecb] at c31; exact Int32.not_lt.mpr c31
                refine o_callV cs_X9_finds cv_X9_261 (c_X9_finds _ hH b (by omega) (mu 109 b) j n c57) hq.2.2.2 (Nat.le_of_ble_eq_true rfl) dX9_copy_89 rfl (by decide) (by rfl) (by rfl) (by rfl) rfl rfl (Nat.le_of_ble_eq_true rfl) (fun rF mu4 hF => ?_)
                obtain ⟨em, hF⟩ := hF
                rw [em]
                subst hF
                refine o_if_ge (tgt := 98) dX9_copy_92 (by decide) rfl (fun (c92 : 0 ≤ (refS mu b (mu 109 b) j n)) => ?_) (fun (c92 : ¬ 0 ≤ (refS mu b (mu 109 b) j n)) => ?_)
                · skip
                  have f1 : fitB (mu 110 a) i n = true := by cases h9 : fitB (mu 110 a) i n; exact absurd ((refS_f h0a).mpr h9) c74; rfl
                  have f2 : fitB (mu 110 b) j n = true := by cases h9 : fitB (mu 110 b) j n; exact absurd ((refS_f h0b).mpr h9) (Int32.not_lt.mpr c92); rfl
                  obtain ⟨N, hN0, eN⟩ := nI_of c57
                  have f3 := f1
                  obtain ⟨za, hza, eza⟩ := hH a (by omega) h0a
                  have hN : N < 1000 := by rw [eza] at f3; have h9 := ((fit_iff hza c57).mp f3); rw [eN, nI_toInt hN0] at h9; have h8 := h9.1; rw [i_lt] at h8; have e0 : (0 : Int32).toInt = 0 := rfl; omega
                  obtain ⟨I, eI, hI⟩ := fitR hH (by omega) h0a (N := N) hN (eN ▸ f1)
                  obtain ⟨J, eJ, hJ⟩ := fitR hH (by omega) h0b (N := N) hN (eN ▸ f2)
                  rw [eI, eJ, eN]
                  refine o_iconst (v := 0) dX9_copy_98 rfl (by decide) ?_
                  refine o_istore (L' := [(0, vC 94), (1, vI (nI a)), (2, vI (nI I)), (3, vI (nI b)), (4, vI (nI J)), (5, vI (nI N)), (6, vI 0)]) dX9_copy_99 rfl (by decide) (by rfl) (by rfl) ?_
                  have LP101 : ∀ (nLP101 : Nat) (k : Nat) (m : Mu) , (k ≤ N) → ((∀ q, q ≠ 112 → m q = mu q) ∧ ∀ t, t < k → m 112 t = mu 111 (24 * a + I + t)) → (N < k + nLP101) → WA X g RX9 7 cX9_copy 101 [(0, vC 94), (1, vI (nI a)), (2, vI (nI I)), (3, vI (nI b)), (4, vI (nI J)), (5, vI (nI N)), (6, vI (nI k))] [] m := by
                    intro nLP101
                    induction nLP101 with
                    | zero =>
                      intro k m hk hP hm
                      exact absurd hm (by omega)
                    | succ nLP101 ihLP101 =>
                      intro k m hk hP hm
                      refine o_iload dX9_copy_101 rfl (by rfl) ?_
                      refine o_iload dX9_copy_103 rfl (by rfl) ?_
                      refine o_icmp_ge (tgt := 135) dX9_copy_105 (by decide) rfl (fun (c105 : (nI N) ≤ (nI k)) => ?_) (fun (c105 : ¬ (nI N) ≤ (nI k)) => ?_)
                      · skip
                        have hk2 := nI_dec2 c105 (by omega) (by omega)
                        have e2 : k = N := by omega
                        rw [e2] at hP
                        refine o_iconst (v := 0) dX9_copy_135 rfl (by decide) ?_
                        refine o_istore (L' := [(0, vC 94), (1, vI (nI a)), (2, vI (nI I)), (3, vI (nI b)), (4, vI (nI J)), (5, vI (nI N)), (6, vI 0)]) dX9_copy_136 rfl (by decide) (by rfl) (by rfl) ?_
                        have LP138 : ∀ (nLP138 : Nat) (k : Nat) (m2 : Mu) , (k ≤ N) → ((∀ q, q ≠ 111 → m2 q = m q) ∧ (∀ t, t < k → m2 111 (24 * b + J + t) = mu 111 (24 * a + I + t)) ∧ ∀ t, (t < 24 * b + J ∨ 24 * b + J + k ≤ t) → m2 111 t = mu 111 t) → (N < k + nLP138) → WA X g RX9 7 cX9_copy 138 [(0, vC 94), (1, vI (nI a)), (2, vI (nI I)), (3, vI (nI b)), (4, vI (nI J)), (5, vI (nI N)), (6, vI (nI k))] [] m2 := by
                          intro nLP138
                          induction nLP138 with
                          | zero =>
                            intro k m2 hk3 hQ hm2
                            exact absurd hm2 (by omega)
                          | succ nLP138 ihLP138 =>
                            intro k m2 hk3 hQ hm2
                            refine o_iload dX9_copy_138 rfl (by rfl) ?_
                            refine o_iload dX9_copy_140 rfl (by rfl) ?_
                            refine o_icmp_ge (tgt := 173) dX9_copy_142 (by decide) rfl (fun (c142 : (nI N) ≤ (nI k)) => ?_) (fun (c142 : ¬ (nI N) ≤ (nI k)) => ?_)
                            · skip
                              have hk2 := nI_dec2 c142 (by omega) (by omega)
                              have e3 : k = N := by omega
                              rw [e3] at hQ
                              refine o_iload dX9_copy_173 rfl (by rfl) ?_
                              exact o_iret hq dX9_copy_175 (Or.inr ⟨by simp [b4, b11], a, b, by omega, by omega, ea, eb, Or.inr ⟨by rw [eca] at c22; exact c22, by rw [ecb] at c31; exact Int32.not_lt.mpr c31, Or.inr ⟨by rw [eca, ecb] at c49; exact c49, Or.inr ⟨by rw [f1, f2]; rfl, eN.symm, I, J, N, eI, eJ, eN, hI, hJ, fun q q1 q2 => (hQ.1 q q1).trans (hP.1 q q2), hQ.2.1, hQ.2.2⟩⟩⟩⟩)
                            · skip
                              have hk2 := nI_dec c142 (by omega) (by omega)
                              refine o_aload_n dX9_copy_145 rfl rfl (by rfl) ?_
                              refine o_getC (q := 111) cl_X9_62 dX9_copy_146 rfl (by decide) (by rfl) (by rfl) ?_
                              refine o_bipush (v := 24) dX9_copy_149 rfl (by decide) ?_
                              refine o_iload_n dX9_copy_151 rfl rfl (by rfl) ?_
                              refine o_imul dX9_copy_152 rfl ?_
                              refine o_iload dX9_copy_153 rfl (by rfl) ?_
                              refine o_iadd dX9_copy_155 rfl ?_
                              refine o_iload dX9_copy_156 rfl (by rfl) ?_
                              refine o_iadd dX9_copy_158 rfl ?_
                              rw [ix3]
                              refine o_aload_n dX9_copy_159 rfl rfl (by rfl) ?_
                              refine o_getC (q := 112) cl_X9_65 dX9_copy_160 rfl (by decide) (by rfl) (by rfl) ?_
                              refine o_iload dX9_copy_163 rfl (by rfl) ?_
                              refine o_iald dX9_copy_165 rfl (by decide) (by rfl) (by rfl) (vp_in_nI (by omega) (by decide)) ?_
                              refine o_iast dX9_copy_166 rfl (by decide) (by rfl) (by rfl) (vp_in_nI (by omega) (by decide)) ?_
                              refine o_iinc (v := nI (k + 1)) (L' := [(0, vC 94), (1, vI (nI a)), (2, vI (nI I)), (3, vI (nI b)), (4, vI (nI J)), (5, vI (nI N)), (6, vI (nI (k + 1)))]) dX9_copy_167 rfl (by rfl) (by exact nI_1 k) (by decide) (by rfl) (by rfl) ?_
                              refine o_goto (tgt := 138) dX9_copy_170 (by decide) ?_
                              exact ihLP138 (k + 1) _ (by omega) ⟨fun q hq9 => by rw [upF_k hq9]; exact hQ.1 q hq9, fun t ht => by rw [nI_clamp (by omega), nI_clamp (show k < 2 ^ 31 by omega)]; by_cases e : t = k; rw [e, upF_s, hQ.1 112 (by decide)]; exact hP.2 k (by omega); rw [upF_i (by omega)]; exact hQ.2.1 t (by omega), fun t ht => by rw [nI_clamp (by omega), upF_i (by omega)]; exact hQ.2.2 t (by omega)⟩ (by omega)
                        exact LP138 (N + 1) 0 _ (by omega) ⟨fun _ _ => rfl, fun t h => by omega, fun t _ => by rw [hP.1 111 (by decide)]⟩ (by omega)
                      · skip
                        have hk2 := nI_dec c105 (by omega) (by omega)
                        refine o_aload_n dX9_copy_108 rfl rfl (by rfl) ?_
                        refine o_getC (q := 112) cl_X9_65 dX9_copy_109 rfl (by decide) (by rfl) (by rfl) ?_
                        refine o_iload dX9_copy_112 rfl (by rfl) ?_
                        refine o_aload_n dX9_copy_114 rfl rfl (by rfl) ?_
                        refine o_getC (q := 111) cl_X9_62 dX9_copy_115 rfl (by decide) (by rfl) (by rfl) ?_
                        refine o_bipush (v := 24) dX9_copy_118 rfl (by decide) ?_
                        refine o_iload_n dX9_copy_120 rfl rfl (by rfl) ?_
                        refine o_imul dX9_copy_121 rfl ?_
                        refine o_iload_n dX9_copy_122 rfl rfl (by rfl) ?_
                        refine o_iadd dX9_copy_123 rfl ?_
                        refine o_iload dX9_copy_124 rfl (by rfl) ?_
                        refine o_iadd dX9_copy_126 rfl ?_
                        rw [ix3]
                        refine o_iald dX9_copy_127 rfl (by decide) (by rfl) (by rfl) (vp_in_nI (by omega) (by decide)) ?_
                        refine o_iast dX9_copy_128 rfl (by decide) (by rfl) (by rfl) (vp_in_nI (by omega) (by decide)) ?_
                        refine o_iinc (v := nI (k + 1)) (L' := [(0, vC 94), (1, vI (nI a)), (2, vI (nI I)), (3, vI (nI b)), (4, vI (nI J)), (5, vI (nI N)), (6, vI (nI (k + 1)))]) dX9_copy_129 rfl (by rfl) (by exact nI_1 k) (by decide) (by rfl) (by rfl) ?_
                        refine o_goto (tgt := 101) dX9_copy_132 (by decide) ?_
                        exact ihLP101 (k + 1) _ (by omega) ⟨fun q hq9 => by rw [upF_k hq9]; exact hP.1 q hq9, fun t ht => by rw [nI_clamp (show k < 2 ^ 31 by omega)]; by_cases e : t = k; rw [e, upF_s, hP.1 111 (by decide), nI_clamp (by omega)]; rw [upF_i e]; exact hP.2 t (by omega)⟩ (by omega)
                  exact LP101 (N + 1) 0 _ (by omega) ⟨fun _ _ => rfl, fun t h => by omega⟩ (by omega)
                · skip
                  refine o_bipush (v := (-13)) dX9_copy_95 rfl (by decide) ?_
                  exact o_iret hq dX9_copy_97 (Or.inr ⟨by simp [b4, b11], a, b, by omega, by omega, ea, eb, Or.inr ⟨by rw [eca] at c22; exact c22, by rw [ecb] at c31; exact Int32.not_lt.mpr c31, Or.inr ⟨by rw [eca, ecb] at c49; exact c49, Or.inl ⟨by rw [(refS_f h0b).mp (Int32.not_le.mp c92), Bool.and_false], rfl, rfl⟩⟩⟩⟩)
          · skip
            refine o_bipush (v := (-12)) dX9_copy_52 rfl (by decide) ?_
            exact o_iret hq dX9_copy_54 (Or.inr ⟨by simp [b4, b11], a, b, by omega, by omega, ea, eb, Or.inr ⟨by rw [eca] at c22; exact c22, by rw [ecb] at c31; exact Int32.not_lt.mpr c31, Or.inl ⟨by rw [eca, ecb] at c49; exact c49, rfl, rfl⟩⟩⟩)
        · skip
          refine o_bipush (v := (-11)) dX9_copy_34 rfl (by decide) ?_
          exact o_iret hq dX9_copy_36 (Or.inr ⟨by simp [b4, b11], a, b, by omega, by omega, ea, eb, Or.inl ⟨Or.inr (by rw [ecb] at c31; exact Int32.not_le.mp c31), rfl, rfl⟩⟩)
    · skip
      have b11 := (if10 h2).1 c11
      refine o_iconst (v := (-1)) dX9_copy_14 rfl (by decide) ?_
      exact o_iret hq dX9_copy_15 (Or.inl ⟨by simp [b4, b11], rfl, rfl⟩)
def FLR (mu m : Mu) (a I p : Nat) (l : Int32) : Prop := (∀ q, (q < 94 ∨ (94 < q ∧ q < 101) ∨ (106 < q ∧ q ≠ 111)) → m q = mu q) ∧ (∀ j, (j < 18 ∨ 30 < j) → m 94 j = mu 94 j) ∧ (∀ i, i < p → m 111 (24 * a + I + 2 * i) = cutV l (tvT mu (i + 1) 0) ∧ m 111 (24 * a + I + 2 * i + 1) = cutV l (tvT mu (i + 1) 1)) ∧ ∀ j, (j < 24 * a + I ∨ 24 * a + I + 2 * p ≤ j) → m 111 j = mu 111 j
theorem FLR.go {mu mT m : Mu} {a I p : Nat} {l x y : Int32} (hx : x = cutV l (tvT mu (p + 1) 0)) (hy : y = cutV l (tvT mu (p + 1) 1)) (h : FLR mu m a I p l ∧ ∀ q, q ≠ 111 → m q = mT q) : FLR mu (upF (upF m 111 (24 * a + I + 2 * p) x) 111 (24 * a + I + 2 * p + 1) y) a I (p + 1) l ∧ ∀ q, q ≠ 111 → upF (upF m 111 (24 * a + I + 2 * p) x) 111 (24 * a + I + 2 * p + 1) y q = mT q := by
  obtain ⟨⟨h1, h2, h3, h4⟩, h5⟩ := h
  refine ⟨⟨fun q hq => by rw [upF_k (by omega), upF_k (by omega)]; exact h1 q hq, fun j hj => by rw [upF_k (by decide), upF_k (by decide)]; exact h2 j hj, fun i hi => ?_, fun j hj => by rw [upF_i (by omega), upF_i (by omega)]; exact h4 j (by omega)⟩, fun q hq => by rw [upF_k hq, upF_k hq]; exact h5 q hq⟩
  by_cases e : i = p
  · subst e
    exact ⟨by rw [upF_i (by omega), upF_s]; exact hx, by rw [upF_s]; exact hy⟩
  · exact ⟨by rw [upF_i (by omega), upF_i (by omega)]; exact (h3 i (by omega)).1, by rw [upF_i (by omega), upF_i (by omega)]; exact (h3 i (by omega)).2⟩
theorem nI_dbl (N : Nat) : 2 * nI N = nI (2 * N) := pk_mul 2 N
set_option maxHeartbeats 4000000 in
set_option maxRecDepth 100000 in
theorem c_X9_film (mu : Mu) (nc np : Nat) (hA : RB mu nc np) (hH : RHs mu) (sh0 l i n : Int32) : Con yX9_film cX9_film 7 (some .int) 3 [vC 94, vI sh0, vI l, vI i, vI n] mu (fun r mu2 => ((inB sh0 0 3 && inB l 0 2 && inB n 1 12) = false ∧ r = -1 ∧ mu2 = mu) ∨ ((inB sh0 0 3 && inB l 0 2 && inB n 1 12) = true ∧ ∃ a N, a < 4 ∧ sh0 = nI a ∧ n = nI N ∧ 1 ≤ N ∧ N ≤ 12 ∧ ((¬ refS mu a l i (2 * n) = 0 ∧ r = refS mu a l i (2 * n) ∧ mu2 = mu) ∨ (refS mu a l i (2 * n) = 0 ∧ r = 2 * n ∧ ∃ I, i = nI I ∧ I + 2 * N ≤ 24 ∧ FLR mu mu2 a I N l)))) := by
  refine con_of (own := RX9) (by decide) rfl (Nat.le_of_ble_eq_true rfl) (fun X g hq => ?_)
  show WA X g RX9 7 cX9_film 0 [(0, vC 94), (1, vI sh0), (2, vI l), (3, vI i), (4, vI n)] [] mu
  refine o_iload_n dX9_film_0 rfl rfl (by rfl) ?_
  refine o_callS cs_X9_isSheet ct_X9_253 (c_X9_isSheet _ sh0) hq.2.2.2 (Nat.le_of_ble_eq_true rfl) dX9_film_1 rfl rfl rfl (Nat.le_of_ble_eq_true rfl) (fun r1 mu1 h1 => ?_)
  obtain ⟨em, h1⟩ := h1
  rw [em]
  refine o_if_eq (tgt := 27) dX9_film_4 (by decide) rfl (fun (c4 : r1 = 0) => ?_) (fun (c4 : ¬ r1 = 0) => ?_)
  · skip
    have b4 := (if10 h1).1 c4
    refine o_iconst (v := (-1)) dX9_film_27 rfl (by decide) ?_
    exact o_iret hq dX9_film_28 (Or.inl ⟨by simp [b4], rfl, rfl⟩)
  · skip
    have b4 := (if10 h1).2 c4
    refine o_iload_n dX9_film_7 rfl rfl (by rfl) ?_
    refine o_callS cs_X9_isLane ct_X9_256 (c_X9_isLane _ l) hq.2.2.2 (Nat.le_of_ble_eq_true rfl) dX9_film_8 rfl rfl rfl (Nat.le_of_ble_eq_true rfl) (fun r2 mu2 h2 => ?_)
    obtain ⟨em, h2⟩ := h2
    rw [em]
    refine o_if_eq (tgt := 27) dX9_film_11 (by decide) rfl (fun (c11 : r2 = 0) => ?_) (fun (c11 : ¬ r2 = 0) => ?_)
    · skip
      have b11 := (if10 h2).1 c11
      refine o_iconst (v := (-1)) dX9_film_27 rfl (by decide) ?_
      exact o_iret hq dX9_film_28 (Or.inl ⟨by simp [b4, b11], rfl, rfl⟩)
    · skip
      have b11 := (if10 h2).2 c11
      refine o_iload dX9_film_14 rfl (by rfl) ?_
      refine o_i2l dX9_film_16 rfl ?_
      refine o_lconst (v := 1) dX9_film_17 rfl (by decide) ?_
      refine o_ldc2 dX9_film_18 rfl kc_X9_259 ?_
      refine o_callS cs_X9_in ct_X9_71 (c_in _ n 1 12) hq.2.2.2 (Nat.le_of_ble_eq_true rfl) dX9_film_21 rfl rfl rfl (Nat.le_of_ble_eq_true rfl) (fun r3 mu3 h3 => ?_)
      obtain ⟨em, h3⟩ := h3
      rw [em]
      refine o_if_ne (tgt := 29) dX9_film_24 (by decide) rfl (fun (c24 : ¬ r3 = 0) => ?_) (fun (c24 : r3 = 0) => ?_)
      · skip
        have b24 := (if10 h3).2 c24
        obtain ⟨a, ea, -, ha⟩ := inB_nI (l := 0) (m := 3) (by decide) (by decide) b4
        obtain ⟨N, eN, hN1, hN2⟩ := inB_nI (l := 1) (m := 12) (by decide) (by decide) b24
        rw [ea, eN]
        refine o_aload_n dX9_film_29 rfl rfl (by rfl) ?_
        refine o_iload_n dX9_film_30 rfl rfl (by rfl) ?_
        refine o_iload_n dX9_film_31 rfl rfl (by rfl) ?_
        refine o_iload_n dX9_film_32 rfl rfl (by rfl) ?_
        refine o_iconst (v := 2) dX9_film_33 rfl (by decide) ?_
        refine o_iload dX9_film_34 rfl (by rfl) ?_
        refine o_imul dX9_film_36 rfl ?_
        refine o_callV cs_X9_finds cv_X9_261 (c_X9_finds _ hH a (by omega) l i (2 * nI N) (by rw [nI_dbl]; exact nI_lt0 (by omega))) hq.2.2.2 (Nat.le_of_ble_eq_true rfl) dX9_film_37 rfl (by decide) (by rfl) (by rfl) (by rfl) rfl rfl (Nat.le_of_ble_eq_true rfl) (fun rF mu4 hF => ?_)
        obtain ⟨em, hF⟩ := hF
        rw [em]
        subst hF
        refine o_istore (L' := [(0, vC 94), (1, vI (nI a)), (2, vI l), (3, vI i), (4, vI (nI N)), (5, vI (refS mu a l i (2 * nI N)))]) dX9_film_40 rfl (by decide) (by rfl) (by rfl) ?_
        refine o_iload dX9_film_42 rfl (by rfl) ?_
        refine o_if_ge (tgt := 50) dX9_film_44 (by decide) rfl (fun (c44 : 0 ≤ (refS mu a l i (2 * nI N))) => ?_) (fun (c44 : ¬ 0 ≤ (refS mu a l i (2 * nI N))) => ?_)
        · skip
          have hr0 : refS mu a l i (2 * nI N) = 0 := (refS_or mu a l i (2 * nI N)).resolve_right (Int32.not_lt.mpr c44)
          obtain ⟨q1, q2, q3⟩ := refS_0 hr0
          obtain ⟨I, eI, hI⟩ := fitR hH (by omega) q1 (N := 2 * N) (by omega) (by rw [← nI_dbl]; exact q3)
          rw [eI]
          refine o_aload_n dX9_film_50 rfl rfl (by rfl) ?_
          refine o_callVV cs_X9_tries cv_X9_222 (c_tries _ _ nc np hA) hq.2.2.2 (Nat.le_of_ble_eq_true rfl) dX9_film_51 rfl (by decide) (by rfl) (by rfl) (by rfl) rfl rfl (Nat.le_of_ble_eq_true rfl) (fun mT hT => ?_)
          refine o_iconst (v := 0) dX9_film_54 rfl (by decide) ?_
          refine o_istore (L' := [(0, vC 94), (1, vI (nI a)), (2, vI l), (3, vI (nI I)), (4, vI (nI N)), (5, vI (refS mu a l (nI I) (2 * nI N))), (6, vI 0)]) dX9_film_55 rfl (by decide) (by rfl) (by rfl) ?_
          have LP57 : ∀ (nLP57 : Nat) (s : Nat) (m : Mu) , (s ≤ N) → (FLR mu m a I s l ∧ ∀ q, q ≠ 111 → m q = mT q) → (N < s + nLP57) → WA X g RX9 7 cX9_film 57 [(0, vC 94), (1, vI (nI a)), (2, vI l), (3, vI (nI I)), (4, vI (nI N)), (5, vI (refS mu a l (nI I) (2 * nI N))), (6, vI (nI s))] [] m := by
            intro nLP57
            induction nLP57 with
            | zero =>
              intro s m hs hP hm
              exact absurd hm (by omega)
            | succ nLP57 ihLP57 =>
              intro s m hs hP hm
              refine o_iload dX9_film_57 rfl (by rfl) ?_
              refine o_iload dX9_film_59 rfl (by rfl) ?_
              refine o_icmp_ge (tgt := 134) dX9_film_61 (by decide) rfl (fun (c61 : (nI N) ≤ (nI s)) => ?_) (fun (c61 : ¬ (nI N) ≤ (nI s)) => ?_)
              · skip
                have hk2 := nI_dec2 c61 (by omega) (by omega)
                have e2 : s = N := by omega
                rw [e2] at hP
                refine o_iconst (v := 2) dX9_film_134 rfl (by decide) ?_
                refine o_iload dX9_film_135 rfl (by rfl) ?_
                refine o_imul dX9_film_137 rfl ?_
                exact o_iret hq dX9_film_138 (Or.inr ⟨by simp [b4, b11, b24], a, N, by omega, ea, eN, hN1, hN2, Or.inr ⟨by rw [eN]; exact hr0, by rw [eN], I, eI, hI, hP.1⟩⟩)
              · skip
                have hk2 := nI_dec c61 (by omega) (by omega)
                refine o_aload_n dX9_film_64 rfl rfl (by rfl) ?_
                refine o_getC (q := 111) cl_X9_62 dX9_film_65 rfl (by decide) (by rfl) (by rfl) ?_
                refine o_bipush (v := 24) dX9_film_68 rfl (by decide) ?_
                refine o_iload_n dX9_film_70 rfl rfl (by rfl) ?_
                refine o_imul dX9_film_71 rfl ?_
                refine o_iload_n dX9_film_72 rfl rfl (by rfl) ?_
                refine o_iadd dX9_film_73 rfl ?_
                refine o_iconst (v := 2) dX9_film_74 rfl (by decide) ?_
                refine o_iload dX9_film_75 rfl (by rfl) ?_
                refine o_imul dX9_film_77 rfl ?_
                refine o_iadd dX9_film_78 rfl ?_
                refine o_iload_n dX9_film_79 rfl rfl (by rfl) ?_
                refine o_aload_n dX9_film_80 rfl rfl (by rfl) ?_
                refine o_getC (q := 101) cl_X9_28 dX9_film_81 rfl (by decide) (by rfl) (by rfl) ?_
                refine o_bipush (v := 9) dX9_film_84 rfl (by decide) ?_
                refine o_iload dX9_film_86 rfl (by rfl) ?_
                refine o_imul dX9_film_88 rfl ?_
                refine o_iald dX9_film_89 rfl (by decide) (by rfl) (by rfl) (ixc (a := 9) (by omega) (by decide)) ?_
                refine o_callS cs_X9_cast ct_X9_277 (c_X9_cast _ l _) hq.2.2.2 (Nat.le_of_ble_eq_true rfl) dX9_film_90 rfl rfl rfl (Nat.le_of_ble_eq_true rfl) (fun rC mu6 hC => ?_)
                obtain ⟨em, hC⟩ := hC
                rw [em]
                subst hC
                refine o_iast dX9_film_93 rfl (by decide) (by rfl) (by rfl) (by rw [ix4]; exact vp_in_nI (by omega) (by decide)) ?_
                refine o_aload_n dX9_film_94 rfl rfl (by rfl) ?_
                refine o_getC (q := 111) cl_X9_62 dX9_film_95 rfl (by decide) (by rfl) (by rfl) ?_
                refine o_bipush (v := 24) dX9_film_98 rfl (by decide) ?_
                refine o_iload_n dX9_film_100 rfl rfl (by rfl) ?_
                refine o_imul dX9_film_101 rfl ?_
                refine o_iload_n dX9_film_102 rfl rfl (by rfl) ?_
                refine o_iadd dX9_film_103 rfl ?_
                refine o_iconst (v := 2) dX9_film_104 rfl (by decide) ?_
                refine o_iload dX9_film_105 rfl (by rfl) ?_
                refine o_imul dX9_film_107 rfl ?_
                refine o_iadd dX9_film_108 rfl ?_
                refine o_iconst (v := 1) dX9_film_109 rfl (by decide) ?_
                refine o_iadd dX9_film_110 rfl ?_
                refine o_iload_n dX9_film_111 rfl rfl (by rfl) ?_
                refine o_aload_n dX9_film_112 rfl rfl (by rfl) ?_
                refine o_getC (q := 101) cl_X9_28 dX9_film_113 rfl (by decide) (by rfl) (by rfl) ?_
                refine o_bipush (v := 9) dX9_film_116 rfl (by decide) ?_
                refine o_iload dX9_film_118 rfl (by rfl) ?_
                refine o_imul dX9_film_120 rfl ?_
                refine o_iconst (v := 1) dX9_film_121 rfl (by decide) ?_
                refine o_iadd dX9_film_122 rfl ?_
                refine o_iald dX9_film_123 rfl (by decide) (by rfl) (by rfl) (ixb (a := 9) (t := 1) (by omega) (by decide)) ?_
                refine o_callS cs_X9_cast ct_X9_277 (c_X9_cast _ l _) hq.2.2.2 (Nat.le_of_ble_eq_true rfl) dX9_film_124 rfl rfl rfl (Nat.le_of_ble_eq_true rfl) (fun rC mu7 hC => ?_)
                obtain ⟨em, hC⟩ := hC
                rw [em]
                subst hC
                refine o_iast dX9_film_127 rfl (by decide) (by rfl) (by rfl) (by rw [ix4, nI_1]; exact vp_in_nI (by omega) (by decide)) ?_
                refine o_iinc (v := nI (s + 1)) (L' := [(0, vC 94), (1, vI (nI a)), (2, vI l), (3, vI (nI I)), (4, vI (nI N)), (5, vI (refS mu a l (nI I) (2 * nI N))), (6, vI (nI (s + 1)))]) dX9_film_128 rfl (by rfl) (by exact nI_1 s) (by decide) (by rfl) (by rfl) ?_
                refine o_goto (tgt := 57) dX9_film_131 (by decide) ?_
                rw [ix4, nI_1, nI_clamp (by omega), nI_clamp (by omega)]
                exact ihLP57 (s + 1) _ (by omega) (FLR.go (by rw [hP.2 101 (by decide), show (9 * nI s).toNatClampNeg = 9 * s from ixm (a := 9) (by omega)]; exact congrArg (cutV l) (hT.2.2.1 s (by omega) 0 (by decide))) (by rw [upF_k (by decide), hP.2 101 (by decide), show (9 * nI s + 1).toNatClampNeg = 9 * s + 1 from ixl (a := 9) (t := 1) (by omega)]; exact congrArg (cutV l) (hT.2.2.1 s (by omega) 1 (by decide))) hP) (by omega)
          exact LP57 (N + 1) 0 _ (by omega) ⟨⟨fun q hq9 => hT.1.1 q (by omega), hT.1.2, fun i hi => by omega, fun j _ => by rw [hT.2.1 111 (by decide)]⟩, fun _ _ => rfl⟩ (by omega)
        · skip
          refine o_iload dX9_film_47 rfl (by rfl) ?_
          exact o_iret hq dX9_film_49 (Or.inr ⟨by simp [b4, b11, b24], a, N, by omega, ea, eN, hN1, hN2, Or.inl ⟨fun h9 => c44 (by rw [eN] at h9; rw [h9]; decide), by rw [eN], rfl⟩⟩)
      · skip
        have b24 := (if10 h3).1 c24
        refine o_iconst (v := (-1)) dX9_film_27 rfl (by decide) ?_
        exact o_iret hq dX9_film_28 (Or.inl ⟨by simp [b4, b11, b24], rfl, rfl⟩)
/-- how many of the first n, and the first of them -/
def cFm (f : Nat → Int32) (n : Nat) : Nat := cN (fun k => !decide (f k = 0)) n
theorem fm_cFm (f : Nat → Int32) : ∀ n, n ≤ 90 → (fm f n).2 = nI (cFm f n) ∧ (0 < cFm f n → ∃ k, k < n ∧ (fm f n).1 = nI k ∧ ¬ f k = 0 ∧ ∀ j, j < k → f j = 0)
  | 0, _ => ⟨rfl, fun h => absurd (show 0 < 0 from h) (Nat.lt_irrefl 0)⟩
  | n + 1, hn => by
    obtain ⟨h1, h2⟩ := fm_cFm f n (by omega)
    have ec : cFm f (n + 1) = cFm f n + (if (!decide (f n = 0)) = true then 1 else 0) := rfl
    have hle : cFm f n ≤ n := cN_le _ n
    by_cases e : f n = 0
    · have e1 : fm f (n + 1) = fm f n := if_pos e
      rw [e1, ec, if_neg (by rw [decide_eq_true e]; decide)]
      refine ⟨h1, fun h => ?_⟩
      obtain ⟨k, k1, k2, k3, k4⟩ := h2 h
      exact ⟨k, by omega, k2, k3, k4⟩
    · have e1 : fm f (n + 1) = ((if (fm f n).2 = 0 then nI n else (fm f n).1), (fm f n).2 + 1) := if_neg e
      have ec1 : cFm f (n + 1) = cFm f n + 1 := by rw [ec, decide_eq_false e]; rfl
      rw [e1, ec1]
      refine ⟨by show (fm f n).2 + 1 = _; rw [h1, nI_1], fun _ => ?_⟩
      show ∃ k, k < n + 1 ∧ (if (fm f n).2 = 0 then nI n else (fm f n).1) = nI k ∧ _
      rw [h1]
      by_cases z : cFm f n = 0
      · rw [if_pos (by rw [z]; rfl)]
        refine ⟨n, by omega, rfl, e, fun j hj => ?_⟩
        have := cN_zero z j hj
        cases q : decide (f j = 0)
        · rw [q] at this; exact absurd rfl this
        · exact of_decide_eq_true q
      · rw [if_neg (show ¬ nI (cFm f n) = 0 from fun q => z ((nI_eq (b := 0) (by omega) (by decide)).mp q))]
        obtain ⟨k, k1, k2, k3, k4⟩ := h2 (by omega)
        exact ⟨k, by omega, k2, k3, k4⟩
theorem cFm_mono (f : Nat → Int32) : ∀ n, cFm f n ≤ cFm f (n + 1) := fun n => by
  show cFm f n ≤ cFm f n + (if (!decide (f n = 0)) = true then 1 else 0)
  omega
theorem cFm_le (f : Nat → Int32) : ∀ {a b : Nat}, a ≤ b → cFm f a ≤ cFm f b
  | a, 0, h => by rw [show a = 0 by omega]; exact Nat.le_refl _
  | a, b + 1, h => by
    by_cases e : a = b + 1
    · rw [e]; exact Nat.le_refl _
    · exact Nat.le_trans (cFm_le f (show a ≤ b by omega)) (cFm_mono f b)
theorem cFm_0 {f : Nat → Int32} {c : Nat} (h : f c = 0) : cFm f (c + 1) = cFm f c := by
  show cFm f c + (if (!decide (f c = 0)) = true then 1 else 0) = _
  rw [decide_eq_true h]; rfl
theorem cFm_1 {f : Nat → Int32} {c : Nat} (h : ¬ f c = 0) : cFm f (c + 1) = cFm f c + 1 := by
  show cFm f c + (if (!decide (f c = 0)) = true then 1 else 0) = _
  rw [decide_eq_false h]; rfl
theorem fm_fin {f : Nat → Int32} {first : Int32} (h : MT (fun k => ¬ f k = 0) 90 0 first) : (first < 0 ↔ (fm f 90).2 = 0) ∧ (¬ first < 0 → ∃ k, k < 90 ∧ first = nI k ∧ (fm f 90).1 = nI k) := by
  obtain ⟨h1, h2⟩ := fm_cFm f 90 (Nat.le_refl _)
  have hle : cFm f 90 ≤ 90 := cN_le _ 90
  rcases h with ⟨a, b⟩ | ⟨i, a, b, c, d, e⟩
  · have z : cFm f 90 = 0 := cN_no (fun j hj q => b j (by omega) hj (by
      intro q2
      rw [decide_eq_true q2] at q
      cases q))
    rw [a, h1, z]
    exact ⟨⟨fun _ => rfl, fun _ => by decide⟩, fun q => absurd (by decide) q⟩
  · have hp : 0 < cFm f 90 := by
      by_cases z : cFm f 90 = 0
      · have := cN_zero z i b
        rw [decide_eq_false d] at this
        exact absurd rfl this
      · omega
    obtain ⟨k, k1, k2, k3, k4⟩ := h2 hp
    have ek : k = i := by
      rcases Nat.lt_trichotomy k i with q | q | q
      · exact absurd k3 (e k (by omega) q)
      · exact q
      · exact absurd (k4 i q) d
    subst ek
    refine ⟨⟨fun q => absurd (c ▸ q) (nI_lt0 (by omega)), fun q => ?_⟩, fun _ => ⟨k, k1, c, k2⟩⟩
    rw [h1] at q
    have := (nI_eq (b := 0) (by omega) (by decide)).mp q
    omega
set_option maxHeartbeats 4000000 in
set_option maxRecDepth 100000 in
theorem c_X9_filmed (mu : Mu) (nc np : Nat) (hA : RB mu nc np) (hH : RHs mu) (hIt : ∀ a, a < 4 → ¬ mu 109 a < 0 → ∀ j, j < 24 → mu 111 (24 * a + j) = mu (90 + a) j) (sh0 l i n what : Int32) : Con yX9_filmed cX9_filmed 12 (some .int) 4 [vC 94, vI sh0, vI l, vI i, vI n, vI what] mu (fun r mu2 => ((inB sh0 0 3 && inB l 0 2 && inB n 1 12 && inB what 0 2) = false ∧ r = -100001 ∧ mu2 = mu) ∨ ((inB sh0 0 3 && inB l 0 2 && inB n 1 12 && inB what 0 2) = true ∧ ∃ a N, a < 4 ∧ sh0 = nI a ∧ n = nI N ∧ 1 ≤ N ∧ N ≤ 12 ∧ ((¬ refS mu a l i (2 * n) = 0 ∧ r = refS mu a l i (2 * n) - 100000 ∧ mu2 = mu) ∨ (refS mu a l i (2 * n) = 0 ∧ ((mu 9 2 = 0 ∧ r = -100002 ∧ mu2 = mu) ∨ (¬ mu 9 2 = 0 ∧ frR mu mu2 ∧ ∃ I, i = nI I ∧ I + 2 * N ≤ 24 ∧ r = fmR (fm (shV mu a I N) 90) what)))))) := by
  refine con_of (own := RX9) (by decide) rfl (Nat.le_of_ble_eq_true rfl) (fun X g hq => ?_)
  show WA X g RX9 12 cX9_filmed 0 [(0, vC 94), (1, vI sh0), (2, vI l), (3, vI i), (4, vI n), (5, vI what)] [] mu
  refine o_iload_n dX9_filmed_0 rfl rfl (by rfl) ?_
  refine o_callS cs_X9_isSheet ct_X9_253 (c_X9_isSheet _ sh0) hq.2.2.2 (Nat.le_of_ble_eq_true rfl) dX9_filmed_1 rfl rfl rfl (Nat.le_of_ble_eq_true rfl) (fun r1 mu1 h1 => ?_)
  obtain ⟨em, h1⟩ := h1
  rw [em]
  refine o_if_eq (tgt := 40) dX9_filmed_4 (by decide) rfl (fun (c4 : r1 = 0) => ?_) (fun (c4 : ¬ r1 = 0) => ?_)
  · skip
    have b4 := (if10 h1).1 c4
    refine o_ldc dX9_filmed_40 rfl kc_X9_99 ?_
    exact o_iret hq dX9_filmed_42 (Or.inl ⟨by simp [b4], rfl, rfl⟩)
  · skip
    have b4 := (if10 h1).2 c4
    refine o_iload_n dX9_filmed_7 rfl rfl (by rfl) ?_
    refine o_callS cs_X9_isLane ct_X9_256 (c_X9_isLane _ l) hq.2.2.2 (Nat.le_of_ble_eq_true rfl) dX9_filmed_8 rfl rfl rfl (Nat.le_of_ble_eq_true rfl) (fun r2 mu2 h2 => ?_)
    obtain ⟨em, h2⟩ := h2
    rw [em]
    refine o_if_eq (tgt := 40) dX9_filmed_11 (by decide) rfl (fun (c11 : r2 = 0) => ?_) (fun (c11 : ¬ r2 = 0) => ?_)
    · skip
      have b11 := (if10 h2).1 c11
      refine o_ldc dX9_filmed_40 rfl kc_X9_99 ?_
      exact o_iret hq dX9_filmed_42 (Or.inl ⟨by simp [b4, b11], rfl, rfl⟩)
    · skip
      have b11 := (if10 h2).2 c11
      refine o_iload dX9_filmed_14 rfl (by rfl) ?_
      refine o_i2l dX9_filmed_16 rfl ?_
      refine o_lconst (v := 1) dX9_filmed_17 rfl (by decide) ?_
      refine o_ldc2 dX9_filmed_18 rfl kc_X9_259 ?_
      refine o_callS cs_X9_in ct_X9_71 (c_in _ n 1 12) hq.2.2.2 (Nat.le_of_ble_eq_true rfl) dX9_filmed_21 rfl rfl rfl (Nat.le_of_ble_eq_true rfl) (fun r3 mu3 h3 => ?_)
      obtain ⟨em, h3⟩ := h3
      rw [em]
      refine o_if_eq (tgt := 40) dX9_filmed_24 (by decide) rfl (fun (c24 : r3 = 0) => ?_) (fun (c24 : ¬ r3 = 0) => ?_)
      · skip
        have b24 := (if10 h3).1 c24
        refine o_ldc dX9_filmed_40 rfl kc_X9_99 ?_
        exact o_iret hq dX9_filmed_42 (Or.inl ⟨by simp [b4, b11, b24], rfl, rfl⟩)
      · skip
        have b24 := (if10 h3).2 c24
        refine o_iload dX9_filmed_27 rfl (by rfl) ?_
        refine o_i2l dX9_filmed_29 rfl ?_
        refine o_lconst (v := 0) dX9_filmed_30 rfl (by decide) ?_
        refine o_ldc2 dX9_filmed_31 rfl kc_X9_75 ?_
        refine o_callS cs_X9_in ct_X9_71 (c_in _ what 0 2) hq.2.2.2 (Nat.le_of_ble_eq_true rfl) dX9_filmed_34 rfl rfl rfl (Nat.le_of_ble_eq_true rfl) (fun r4 mu4 h4 => ?_)
        obtain ⟨em, h4⟩ := h4
        rw [em]
        refine o_if_ne (tgt := 43) dX9_filmed_37 (by decide) rfl (fun (c37 : ¬ r4 = 0) => ?_) (fun (c37 : r4 = 0) => ?_)
        · skip
          have b37 := (if10 h4).2 c37
          obtain ⟨a, ea, -, ha⟩ := inB_nI (l := 0) (m := 3) (by decide) (by decide) b4
          obtain ⟨N, eN, hN1, hN2⟩ := inB_nI (l := 1) (m := 12) (by decide) (by decide) b24
          rw [ea, eN]
          refine o_aload_n dX9_filmed_43 rfl rfl (by rfl) ?_
          refine o_iload_n dX9_filmed_44 rfl rfl (by rfl) ?_
          refine o_iload_n dX9_filmed_45 rfl rfl (by rfl) ?_
          refine o_iload_n dX9_filmed_46 rfl rfl (by rfl) ?_
          refine o_iconst (v := 2) dX9_filmed_47 rfl (by decide) ?_
          refine o_iload dX9_filmed_48 rfl (by rfl) ?_
          refine o_imul dX9_filmed_50 rfl ?_
          refine o_callV cs_X9_finds cv_X9_261 (c_X9_finds _ hH a (by omega) l i (2 * nI N) (by rw [nI_dbl]; exact nI_lt0 (by omega))) hq.2.2.2 (Nat.le_of_ble_eq_true rfl) dX9_filmed_51 rfl (by decide) (by rfl) (by rfl) (by rfl) rfl rfl (Nat.le_of_ble_eq_true rfl) (fun rF mu5 hF => ?_)
          obtain ⟨em, hF⟩ := hF
          rw [em]
          subst hF
          refine o_istore (L' := [(0, vC 94), (1, vI (nI a)), (2, vI l), (3, vI i), (4, vI (nI N)), (5, vI what), (6, vI (refS mu a l i (2 * nI N)))]) dX9_filmed_54 rfl (by decide) (by rfl) (by rfl) ?_
          refine o_iload dX9_filmed_56 rfl (by rfl) ?_
          refine o_if_ge (tgt := 68) dX9_filmed_58 (by decide) rfl (fun (c58 : 0 ≤ (refS mu a l i (2 * nI N))) => ?_) (fun (c58 : ¬ 0 ≤ (refS mu a l i (2 * nI N))) => ?_)
          · skip
            have hr0 : refS mu a l i (2 * nI N) = 0 := (refS_or mu a l i (2 * nI N)).resolve_right (Int32.not_lt.mpr c58)
            refine o_aload_n dX9_filmed_68 rfl rfl (by rfl) ?_
            refine o_getI cl_X9_100 dX9_filmed_69 rfl (by decide) (by rfl) (by rfl) ?_
            refine o_if_ne (tgt := 78) dX9_filmed_72 (by decide) rfl (fun (c72 : ¬ (mu 94 3) = 0) => ?_) (fun (c72 : (mu 94 3) = 0) => ?_)
            · skip
              obtain ⟨q1, q2, q3⟩ := refS_0 hr0
              obtain ⟨I, eI, hI⟩ := fitR hH (by omega) q1 (N := 2 * N) (by omega) (by rw [← nI_dbl]; exact q3)
              rw [eI]
              refine o_iconst (v := 0) dX9_filmed_78 rfl (by decide) ?_
              refine o_istore (L' := [(0, vC 94), (1, vI (nI a)), (2, vI l), (3, vI (nI I)), (4, vI (nI N)), (5, vI what), (6, vI (refS mu a l (nI I) (2 * nI N))), (7, vI 0)]) dX9_filmed_79 rfl (by decide) (by rfl) (by rfl) ?_
              refine o_bipush (v := (-4)) dX9_filmed_81 rfl (by decide) ?_
              refine o_istore (L' := [(0, vC 94), (1, vI (nI a)), (2, vI l), (3, vI (nI I)), (4, vI (nI N)), (5, vI what), (6, vI (refS mu a l (nI I) (2 * nI N))), (7, vI 0), (8, vI ((-4)))]) dX9_filmed_83 rfl (by decide) (by rfl) (by rfl) ?_
              refine o_bipush (v := 89) dX9_filmed_85 rfl (by decide) ?_
              refine o_istore (L' := [(0, vC 94), (1, vI (nI a)), (2, vI l), (3, vI (nI I)), (4, vI (nI N)), (5, vI what), (6, vI (refS mu a l (nI I) (2 * nI N))), (7, vI 0), (8, vI ((-4))), (9, vI 89)]) dX9_filmed_87 rfl (by decide) (by rfl) (by rfl) ?_
              have LP89 : ∀ (nLP89 : Nat) (t : Nat) (first : Int32) (m : Mu) , (t ≤ 90) → (frR mu m) → (MT (fun k => ¬ shV mu a I N k = 0) 90 t first) → (t < nLP89) → WA X g RX9 12 cX9_filmed 89 [(0, vC 94), (1, vI (nI a)), (2, vI l), (3, vI (nI I)), (4, vI (nI N)), (5, vI what), (6, vI (refS mu a l (nI I) (2 * nI N))), (7, vI (nI (cFm (shV mu a I N) 90 - cFm (shV mu a I N) t))), (8, vI first), (9, vI (nI t - 1))] [] m := by
                intro nLP89
                induction nLP89 with
                | zero =>
                  intro t first m ht hF hM hm
                  exact absurd hm (by omega)
                | succ nLP89 ihLP89 =>
                  intro t first m ht hF hM hm
                  refine o_iload dX9_filmed_89 rfl (by rfl) ?_
                  refine o_if_lt (tgt := 239) dX9_filmed_91 (by decide) rfl (fun (c91 : (nI t - 1) < 0) => ?_) (fun (c91 : ¬ (nI t - 1) < 0) => ?_)
                  · skip
                    have ht0 : t = 0 := by by_cases h9 : t = 0; exact h9; exact absurd c91 (by rw [show nI t - 1 = nI (t - 1) from pk_sub (b := 1) (by omega)]; exact nI_nlt (b := 0) (by omega) (by omega))
                    have hfin := fm_fin (by rw [ht0] at hM; exact hM)
                    refine o_iload dX9_filmed_239 rfl (by rfl) ?_
                    refine o_if_ne (tgt := 249) dX9_filmed_241 (by decide) rfl (fun (c241 : ¬ what = 0) => ?_) (fun (c241 : what = 0) => ?_)
                    · skip
                      refine o_iload dX9_filmed_249 rfl (by rfl) ?_
                      refine o_if_ge (tgt := 259) dX9_filmed_251 (by decide) rfl (fun (c251 : 0 ≤ first) => ?_) (fun (c251 : ¬ 0 ≤ first) => ?_)
                      · skip
                        obtain ⟨kf, hkf, ekf, ekm⟩ := hfin.2 (Int32.not_lt.mpr c251)
                        refine o_iload dX9_filmed_259 rfl (by rfl) ?_
                        refine o_iconst (v := 1) dX9_filmed_261 rfl (by decide) ?_
                        refine o_icmp_ne (tgt := 275) dX9_filmed_262 (by decide) rfl (fun (c262 : ¬ what = 1) => ?_) (fun (c262 : what = 1) => ?_)
                        · skip
                          refine o_iload dX9_filmed_275 rfl (by rfl) ?_
                          refine o_bipush (v := 10) dX9_filmed_277 rfl (by decide) ?_
                          refine o_irem dX9_filmed_279 rfl (by decide) ?_
                          exact o_iret hq dX9_filmed_280 (Or.inr ⟨by simp [b4, b11, b24, b37], a, N, by omega, ea, eN, hN1, hN2, Or.inr ⟨by rw [eN]; exact hr0, Or.inr ⟨fun h9 => c72 (hA.z.mpr h9), hF, I, eI, hI, by rw [ekf]; exact (gV_r kf hkf).trans (by rw [show gV kf = gV (fm (shV mu a I N) 90).1.toNatClampNeg by rw [ekm, nI_clamp (by omega)]]; exact (((if_neg c241).trans (if_neg (fun q => absurd (hfin.1.mpr q) (Int32.not_lt.mpr c251)))).trans (if_neg c262)).symm)⟩⟩⟩)
                        · skip
                          refine o_iload dX9_filmed_265 rfl (by rfl) ?_
                          refine o_bipush (v := 10) dX9_filmed_267 rfl (by decide) ?_
                          refine o_idiv dX9_filmed_269 rfl (by decide) ?_
                          refine o_iconst (v := 4) dX9_filmed_270 rfl (by decide) ?_
                          refine o_isub dX9_filmed_271 rfl ?_
                          refine o_goto (tgt := 280) dX9_filmed_272 (by decide) ?_
                          exact o_iret hq dX9_filmed_280 (Or.inr ⟨by simp [b4, b11, b24, b37], a, N, by omega, ea, eN, hN1, hN2, Or.inr ⟨by rw [eN]; exact hr0, Or.inr ⟨fun h9 => c72 (hA.z.mpr h9), hF, I, eI, hI, by rw [ekf]; exact (gU_r kf hkf).trans (by rw [show gU kf = gU (fm (shV mu a I N) 90).1.toNatClampNeg by rw [ekm, nI_clamp (by omega)]]; exact (((if_neg c241).trans (if_neg (fun q => absurd (hfin.1.mpr q) (Int32.not_lt.mpr c251)))).trans (if_pos c262)).symm)⟩⟩⟩)
                      · skip
                        refine o_ldc dX9_filmed_254 rfl kc_X9_243 ?_
                        refine o_goto (tgt := 280) dX9_filmed_256 (by decide) ?_
                        exact o_iret hq dX9_filmed_280 (Or.inr ⟨by simp [b4, b11, b24, b37], a, N, by omega, ea, eN, hN1, hN2, Or.inr ⟨by rw [eN]; exact hr0, Or.inr ⟨fun h9 => c72 (hA.z.mpr h9), hF, I, eI, hI, ((if_neg c241).trans (if_pos (hfin.1.mp (Int32.not_le.mp c251)))).symm⟩⟩⟩)
                    · skip
                      refine o_iload dX9_filmed_244 rfl (by rfl) ?_
                      refine o_goto (tgt := 280) dX9_filmed_246 (by decide) ?_
                      exact o_iret hq dX9_filmed_280 (Or.inr ⟨by simp [b4, b11, b24, b37], a, N, by omega, ea, eN, hN1, hN2, Or.inr ⟨by rw [eN]; exact hr0, Or.inr ⟨fun h9 => c72 (hA.z.mpr h9), hF, I, eI, hI, by rw [c241]; show nI (cFm (shV mu a I N) 90 - cFm (shV mu a I N) t) = (fm (shV mu a I N) 90).2; rw [ht0, (fm_cFm _ 90 (by omega)).1]; rfl⟩⟩⟩)
                  · skip
                    obtain ⟨c, ec⟩ : ∃ c, t = c + 1 := ⟨t - 1, by have : ¬ t = 0 := fun e9 => c91 (by rw [e9]; decide); omega⟩
                    subst ec
                    rw [bk1]
                    have hA2 := toka_fr hA hF
                    refine o_aload_n dX9_filmed_94 rfl rfl (by rfl) ?_
                    refine o_iload dX9_filmed_95 rfl (by rfl) ?_
                    refine o_bipush (v := 10) dX9_filmed_97 rfl (by decide) ?_
                    refine o_idiv dX9_filmed_99 rfl (by decide) ?_
                    refine o_iconst (v := 4) dX9_filmed_100 rfl (by decide) ?_
                    refine o_isub dX9_filmed_101 rfl ?_
                    refine o_iload dX9_filmed_102 rfl (by rfl) ?_
                    refine o_bipush (v := 10) dX9_filmed_104 rfl (by decide) ?_
                    refine o_irem dX9_filmed_106 rfl (by decide) ?_
                    rw [gU_r c (by omega), gV_r c (by omega)]
                    refine o_callV cs_X9_endBy cv_X9_227 (c_X9_endBy m _ nc np hA2.1 (gU c) (gV c) (gU_rg (by omega)) gV_rg) hq.2.2.2 (Nat.le_of_ble_eq_true rfl) dX9_filmed_107 rfl (by decide) (by rfl) (by rfl) (by rfl) rfl rfl (Nat.le_of_ble_eq_true rfl) (fun rE m2 hE => ?_)
                    have hF2 := hF.tr hE.1
                    refine o_pop dX9_filmed_110 rfl rfl ?_
                    refine o_iconst (v := 1) dX9_filmed_111 rfl (by decide) ?_
                    refine o_istore (L' := [(0, vC 94), (1, vI (nI a)), (2, vI l), (3, vI (nI I)), (4, vI (nI N)), (5, vI what), (6, vI (refS mu a l (nI I) (2 * nI N))), (7, vI (nI (cFm (shV mu a I N) 90 - cFm (shV mu a I N) (c + 1)))), (8, vI first), (9, vI (nI c)), (10, vI 1)]) dX9_filmed_112 rfl (by decide) (by rfl) (by rfl) ?_
                    refine o_iconst (v := 0) dX9_filmed_114 rfl (by decide) ?_
                    refine o_istore (L' := [(0, vC 94), (1, vI (nI a)), (2, vI l), (3, vI (nI I)), (4, vI (nI N)), (5, vI what), (6, vI (refS mu a l (nI I) (2 * nI N))), (7, vI (nI (cFm (shV mu a I N) 90 - cFm (shV mu a I N) (c + 1)))), (8, vI first), (9, vI (nI c)), (10, vI 1), (11, vI 0)]) dX9_filmed_115 rfl (by decide) (by rfl) (by rfl) ?_
                    have LP117 : ∀ (nLP117 : Nat) (p : Nat) (x : Int32) , (p ≤ N) → ((x = 1 ∧ ∀ q, q < p → mu (90 + a) (I + 2 * q) = tv mu (mu 2 0) (gU c) (gV c) 1 (-1) 0 (q + 1) 0 ∧ mu (90 + a) (I + 2 * q + 1) = tv mu (mu 2 0) (gU c) (gV c) 1 (-1) 0 (q + 1) 1) ∨ (x = 0 ∧ ¬ shP mu a I N c)) → (N < p + nLP117) → WA X g RX9 12 cX9_filmed 117 [(0, vC 94), (1, vI (nI a)), (2, vI l), (3, vI (nI I)), (4, vI (nI N)), (5, vI what), (6, vI (refS mu a l (nI I) (2 * nI N))), (7, vI (nI (cFm (shV mu a I N) 90 - cFm (shV mu a I N) (c + 1)))), (8, vI first), (9, vI (nI c)), (10, vI x), (11, vI (nI p))] [] m2 := by
                      intro nLP117
                      induction nLP117 with
                      | zero =>
                        intro p x hp hX hm2
                        exact absurd hm2 (by omega)
                      | succ nLP117 ihLP117 =>
                        intro p x hp hX hm2
                        refine o_iload dX9_filmed_117 rfl (by rfl) ?_
                        refine o_iload dX9_filmed_119 rfl (by rfl) ?_
                        refine o_icmp_ge (tgt := 204) dX9_filmed_121 (by decide) rfl (fun (c121 : (nI N) ≤ (nI p)) => ?_) (fun (c121 : ¬ (nI N) ≤ (nI p)) => ?_)
                        · skip
                          have hp2 := nI_dec2 c121 (by omega) (by omega)
                          have ep : p = N := by omega
                          refine o_iload dX9_filmed_204 rfl (by rfl) ?_
                          refine o_iload dX9_filmed_206 rfl (by rfl) ?_
                          refine o_if_eq (tgt := 215) dX9_filmed_208 (by decide) rfl (fun (c208 : x = 0) => ?_) (fun (c208 : ¬ x = 0) => ?_)
                          · skip
                            refine o_iconst (v := 0) dX9_filmed_215 rfl (by decide) ?_
                            refine o_iadd dX9_filmed_216 rfl ?_
                            refine o_istore (L' := [(0, vC 94), (1, vI (nI a)), (2, vI l), (3, vI (nI I)), (4, vI (nI N)), (5, vI what), (6, vI (refS mu a l (nI I) (2 * nI N))), (7, vI ((nI (cFm (shV mu a I N) 90 - cFm (shV mu a I N) (c + 1))) + 0)), (8, vI first), (9, vI (nI c)), (10, vI x), (11, vI (nI p))]) dX9_filmed_217 rfl (by decide) (by rfl) (by rfl) ?_
                            refine o_iload dX9_filmed_219 rfl (by rfl) ?_
                            refine o_if_eq (tgt := 229) dX9_filmed_221 (by decide) rfl (fun (c221 : x = 0) => ?_) (fun (c221 : ¬ x = 0) => ?_)
                            · skip
                              refine o_iload dX9_filmed_229 rfl (by rfl) ?_
                              refine o_istore (L' := [(0, vC 94), (1, vI (nI a)), (2, vI l), (3, vI (nI I)), (4, vI (nI N)), (5, vI what), (6, vI (refS mu a l (nI I) (2 * nI N))), (7, vI ((nI (cFm (shV mu a I N) 90 - cFm (shV mu a I N) (c + 1))) + 0)), (8, vI first), (9, vI (nI c)), (10, vI x), (11, vI (nI p))]) dX9_filmed_231 rfl (by decide) (by rfl) (by rfl) ?_
                              refine o_iinc (v := nI c - 1) (L' := [(0, vC 94), (1, vI (nI a)), (2, vI l), (3, vI (nI I)), (4, vI (nI N)), (5, vI what), (6, vI (refS mu a l (nI I) (2 * nI N))), (7, vI ((nI (cFm (shV mu a I N) 90 - cFm (shV mu a I N) (c + 1))) + 0)), (8, vI first), (9, vI (nI c - 1)), (10, vI x), (11, vI (nI p))]) dX9_filmed_233 rfl (by rfl) (by exact dec1 (nI c)) (by decide) (by rfl) (by rfl) ?_
                              refine o_goto (tgt := 89) dX9_filmed_236 (by decide) ?_
                              refine o_pick (L' := [(0, vC 94), (1, vI (nI a)), (2, vI l), (3, vI (nI I)), (4, vI (nI N)), (5, vI what), (6, vI (refS mu a l (nI I) (2 * nI N))), (7, vI ((nI (cFm (shV mu a I N) 90 - cFm (shV mu a I N) (c + 1))) + 0)), (8, vI first), (9, vI (nI c - 1))]) [0, 1, 2, 3, 4, 5, 6, 7, 8, 9] (by rfl) ?_
                              have hno : ¬ shP mu a I N c := (hX.resolve_left (fun h => by rw [h.1] at c208; exact absurd c208 (by decide))).2
                              have hf0 : shV mu a I N c = 0 := ((shV_sp mu a I N c).resolve_left (fun h => hno h.2)).1
                              rw [show ((nI (cFm (shV mu a I N) 90 - cFm (shV mu a I N) (c + 1))) + 0) = nI (cFm (shV mu a I N) 90 - cFm (shV mu a I N) c) by rw [cFm_0 hf0]; exact Int32.add_zero _]
                              exact ihLP89 c _ _ (by omega) (hF.tr hE.1) (hM.no (fun h => h hf0)) (by omega)
                            · skip
                              exact absurd c208 c221
                          · skip
                            refine o_iconst (v := 1) dX9_filmed_211 rfl (by decide) ?_
                            refine o_goto (tgt := 216) dX9_filmed_212 (by decide) ?_
                            refine o_iadd dX9_filmed_216 rfl ?_
                            refine o_istore (L' := [(0, vC 94), (1, vI (nI a)), (2, vI l), (3, vI (nI I)), (4, vI (nI N)), (5, vI what), (6, vI (refS mu a l (nI I) (2 * nI N))), (7, vI ((nI (cFm (shV mu a I N) 90 - cFm (shV mu a I N) (c + 1))) + 1)), (8, vI first), (9, vI (nI c)), (10, vI x), (11, vI (nI p))]) dX9_filmed_217 rfl (by decide) (by rfl) (by rfl) ?_
                            refine o_iload dX9_filmed_219 rfl (by rfl) ?_
                            refine o_if_eq (tgt := 229) dX9_filmed_221 (by decide) rfl (fun (c221 : x = 0) => ?_) (fun (c221 : ¬ x = 0) => ?_)
                            · skip
                              exact absurd c221 c208
                            · skip
                              refine o_iload dX9_filmed_224 rfl (by rfl) ?_
                              refine o_goto (tgt := 231) dX9_filmed_226 (by decide) ?_
                              refine o_istore (L' := [(0, vC 94), (1, vI (nI a)), (2, vI l), (3, vI (nI I)), (4, vI (nI N)), (5, vI what), (6, vI (refS mu a l (nI I) (2 * nI N))), (7, vI ((nI (cFm (shV mu a I N) 90 - cFm (shV mu a I N) (c + 1))) + 1)), (8, vI (nI c)), (9, vI (nI c)), (10, vI x), (11, vI (nI p))]) dX9_filmed_231 rfl (by decide) (by rfl) (by rfl) ?_
                              refine o_iinc (v := nI c - 1) (L' := [(0, vC 94), (1, vI (nI a)), (2, vI l), (3, vI (nI I)), (4, vI (nI N)), (5, vI what), (6, vI (refS mu a l (nI I) (2 * nI N))), (7, vI ((nI (cFm (shV mu a I N) 90 - cFm (shV mu a I N) (c + 1))) + 1)), (8, vI (nI c)), (9, vI (nI c - 1)), (10, vI x), (11, vI (nI p))]) dX9_filmed_233 rfl (by rfl) (by exact dec1 (nI c)) (by decide) (by rfl) (by rfl) ?_
                              refine o_goto (tgt := 89) dX9_filmed_236 (by decide) ?_
                              refine o_pick (L' := [(0, vC 94), (1, vI (nI a)), (2, vI l), (3, vI (nI I)), (4, vI (nI N)), (5, vI what), (6, vI (refS mu a l (nI I) (2 * nI N))), (7, vI ((nI (cFm (shV mu a I N) 90 - cFm (shV mu a I N) (c + 1))) + 1)), (8, vI (nI c)), (9, vI (nI c - 1))]) [0, 1, 2, 3, 4, 5, 6, 7, 8, 9] (by rfl) ?_
                              have hyes : shP mu a I N c := fun q hq9 => (hX.resolve_right (fun h => c208 h.1)).2 q (by omega)
                              have hf1 : ¬ shV mu a I N c = 0 := fun h9 => absurd (((shV_sp mu a I N c).resolve_right (fun h => h.2 hyes)).1.symm.trans h9) (by decide)
                              have hle9 := cFm_le (shV mu a I N) (show c + 1 ≤ 90 by omega)
                              rw [show ((nI (cFm (shV mu a I N) 90 - cFm (shV mu a I N) (c + 1))) + 1) = nI (cFm (shV mu a I N) 90 - cFm (shV mu a I N) c) by rw [nI_1, cFm_1 hf1]; rw [cFm_1 hf1] at hle9; congr 1; omega]
                              exact ihLP89 c _ _ (by omega) (hF.tr hE.1) (MT.yes (by omega) hf1) (by omega)
                        · skip
                          have hp2 := nI_dec c121 (by omega) (by omega)
                          refine o_iload dX9_filmed_124 rfl (by rfl) ?_
                          refine o_if_eq (tgt := 195) dX9_filmed_126 (by decide) rfl (fun (c126 : x = 0) => ?_) (fun (c126 : ¬ x = 0) => ?_)
                          · skip
                            refine o_iconst (v := 0) dX9_filmed_195 rfl (by decide) ?_
                            refine o_istore (L' := [(0, vC 94), (1, vI (nI a)), (2, vI l), (3, vI (nI I)), (4, vI (nI N)), (5, vI what), (6, vI (refS mu a l (nI I) (2 * nI N))), (7, vI (nI (cFm (shV mu a I N) 90 - cFm (shV mu a I N) (c + 1)))), (8, vI first), (9, vI (nI c)), (10, vI 0), (11, vI (nI p))]) dX9_filmed_196 rfl (by decide) (by rfl) (by rfl) ?_
                            refine o_iinc (v := nI (p + 1)) (L' := [(0, vC 94), (1, vI (nI a)), (2, vI l), (3, vI (nI I)), (4, vI (nI N)), (5, vI what), (6, vI (refS mu a l (nI I) (2 * nI N))), (7, vI (nI (cFm (shV mu a I N) 90 - cFm (shV mu a I N) (c + 1)))), (8, vI first), (9, vI (nI c)), (10, vI 0), (11, vI (nI (p + 1)))]) dX9_filmed_198 rfl (by rfl) (by exact nI_1 p) (by decide) (by rfl) (by rfl) ?_
                            refine o_goto (tgt := 117) dX9_filmed_201 (by decide) ?_
                            exact ihLP117 (p + 1) _ (by omega) (Or.inr ⟨rfl, (hX.resolve_left (fun h => by rw [h.1] at c126; exact absurd c126 (by decide))).2⟩) (by omega)
                          · skip
                            have hX1 := hX.resolve_right (fun h => c126 h.1)
                            have g1 : m2 111 (nI (24 * a + I + 2 * p)).toNatClampNeg = mu (90 + a) (I + 2 * p) := by rw [nI_clamp (by omega), hF2.1 111 (by omega), show 24 * a + I + 2 * p = 24 * a + (I + 2 * p) by omega]; exact hIt a (by omega) q1 _ (by omega)
                            have g2 : m2 111 (nI (24 * a + I + 2 * p + 1)).toNatClampNeg = mu (90 + a) (I + 2 * p + 1) := by rw [nI_clamp (by omega), hF2.1 111 (by omega), show 24 * a + I + 2 * p + 1 = 24 * a + (I + 2 * p + 1) by omega]; exact hIt a (by omega) q1 _ (by omega)
                            have g3 : m2 101 (9 * nI p).toNatClampNeg = tv mu (mu 2 0) (gU c) (gV c) 1 (-1) 0 (p + 1) 0 := by rw [show (9 * nI p).toNatClampNeg = 9 * p from ixm (a := 9) (by omega)]; exact (hE.2.2.2 p (by omega) 0 (by decide)).trans (by show tv m _ _ _ _ _ _ _ _ = _; rw [hA2.2])
                            have g4 : m2 101 (9 * nI p + 1).toNatClampNeg = tv mu (mu 2 0) (gU c) (gV c) 1 (-1) 0 (p + 1) 1 := by rw [show (9 * nI p + 1).toNatClampNeg = 9 * p + 1 from ixl (a := 9) (t := 1) (by omega)]; exact (hE.2.2.2 p (by omega) 1 (by decide)).trans (by show tv m _ _ _ _ _ _ _ _ = _; rw [hA2.2])
                            refine o_aload_n dX9_filmed_129 rfl rfl (by rfl) ?_
                            refine o_getC (q := 111) cl_X9_62 dX9_filmed_130 rfl (by decide) (by rfl) (by rfl) ?_
                            refine o_bipush (v := 24) dX9_filmed_133 rfl (by decide) ?_
                            refine o_iload_n dX9_filmed_135 rfl rfl (by rfl) ?_
                            refine o_imul dX9_filmed_136 rfl ?_
                            refine o_iload_n dX9_filmed_137 rfl rfl (by rfl) ?_
                            refine o_iadd dX9_filmed_138 rfl ?_
                            refine o_iconst (v := 2) dX9_filmed_139 rfl (by decide) ?_
                            refine o_iload dX9_filmed_140 rfl (by rfl) ?_
                            refine o_imul dX9_filmed_142 rfl ?_
                            refine o_iadd dX9_filmed_143 rfl ?_
                            rw [ix4]
                            refine o_iald dX9_filmed_144 rfl (by decide) (by rfl) (by rfl) (vp_in_nI (by omega) (by decide)) ?_
                            refine o_aload_n dX9_filmed_145 rfl rfl (by rfl) ?_
                            refine o_getC (q := 101) cl_X9_28 dX9_filmed_146 rfl (by decide) (by rfl) (by rfl) ?_
                            refine o_bipush (v := 9) dX9_filmed_149 rfl (by decide) ?_
                            refine o_iload dX9_filmed_151 rfl (by rfl) ?_
                            refine o_imul dX9_filmed_153 rfl ?_
                            refine o_iald dX9_filmed_154 rfl (by decide) (by rfl) (by rfl) (ixc (a := 9) (by omega) (by decide)) ?_
                            refine o_icmp_ne (tgt := 195) dX9_filmed_155 (by decide) rfl (fun (c155 : ¬ (m2 111 (nI (24 * a + I + 2 * p)).toNatClampNeg) = (m2 101 (9 * nI p).toNatClampNeg)) => ?_) (fun (c155 : (m2 111 (nI (24 * a + I + 2 * p)).toNatClampNeg) = (m2 101 (9 * nI p).toNatClampNeg)) => ?_)
                            · skip
                              refine o_iconst (v := 0) dX9_filmed_195 rfl (by decide) ?_
                              refine o_istore (L' := [(0, vC 94), (1, vI (nI a)), (2, vI l), (3, vI (nI I)), (4, vI (nI N)), (5, vI what), (6, vI (refS mu a l (nI I) (2 * nI N))), (7, vI (nI (cFm (shV mu a I N) 90 - cFm (shV mu a I N) (c + 1)))), (8, vI first), (9, vI (nI c)), (10, vI 0), (11, vI (nI p))]) dX9_filmed_196 rfl (by decide) (by rfl) (by rfl) ?_
                              refine o_iinc (v := nI (p + 1)) (L' := [(0, vC 94), (1, vI (nI a)), (2, vI l), (3, vI (nI I)), (4, vI (nI N)), (5, vI what), (6, vI (refS mu a l (nI I) (2 * nI N))), (7, vI (nI (cFm (shV mu a I N) 90 - cFm (shV mu a I N) (c + 1)))), (8, vI first), (9, vI (nI c)), (10, vI 0), (11, vI (nI (p + 1)))]) dX9_filmed_198 rfl (by rfl) (by exact nI_1 p) (by decide) (by rfl) (by rfl) ?_
                              refine o_goto (tgt := 117) dX9_filmed_201 (by decide) ?_
                              exact ihLP117 (p + 1) _ (by omega) (Or.inr ⟨rfl, fun h => c155 (by rw [g1, g3]; exact (h p hp2).1)⟩) (by omega)
                            · skip
                              refine o_aload_n dX9_filmed_158 rfl rfl (by rfl) ?_
                              refine o_getC (q := 111) cl_X9_62 dX9_filmed_159 rfl (by decide) (by rfl) (by rfl) ?_
                              refine o_bipush (v := 24) dX9_filmed_162 rfl (by decide) ?_
                              refine o_iload_n dX9_filmed_164 rfl rfl (by rfl) ?_
                              refine o_imul dX9_filmed_165 rfl ?_
                              refine o_iload_n dX9_filmed_166 rfl rfl (by rfl) ?_
                              refine o_iadd dX9_filmed_167 rfl ?_
                              refine o_iconst (v := 2) dX9_filmed_168 rfl (by decide) ?_
                              refine o_iload dX9_filmed_169 rfl (by rfl) ?_
                              refine o_imul dX9_filmed_171 rfl ?_
                              refine o_iadd dX9_filmed_172 rfl ?_
                              refine o_iconst (v := 1) dX9_filmed_173 rfl (by decide) ?_
                              refine o_iadd dX9_filmed_174 rfl ?_
                              rw [ix4, nI_1]
                              refine o_iald dX9_filmed_175 rfl (by decide) (by rfl) (by rfl) (vp_in_nI (by omega) (by decide)) ?_
                              refine o_aload_n dX9_filmed_176 rfl rfl (by rfl) ?_
                              refine o_getC (q := 101) cl_X9_28 dX9_filmed_177 rfl (by decide) (by rfl) (by rfl) ?_
                              refine o_bipush (v := 9) dX9_filmed_180 rfl (by decide) ?_
                              refine o_iload dX9_filmed_182 rfl (by rfl) ?_
                              refine o_imul dX9_filmed_184 rfl ?_
                              refine o_iconst (v := 1) dX9_filmed_185 rfl (by decide) ?_
                              refine o_iadd dX9_filmed_186 rfl ?_
                              refine o_iald dX9_filmed_187 rfl (by decide) (by rfl) (by rfl) (ixb (a := 9) (t := 1) (by omega) (by decide)) ?_
                              refine o_icmp_ne (tgt := 195) dX9_filmed_188 (by decide) rfl (fun (c188 : ¬ (m2 111 (nI (24 * a + I + 2 * p + 1)).toNatClampNeg) = (m2 101 (9 * nI p + 1).toNatClampNeg)) => ?_) (fun (c188 : (m2 111 (nI (24 * a + I + 2 * p + 1)).toNatClampNeg) = (m2 101 (9 * nI p + 1).toNatClampNeg)) => ?_)
                              · skip
                                refine o_iconst (v := 0) dX9_filmed_195 rfl (by decide) ?_
                                refine o_istore (L' := [(0, vC 94), (1, vI (nI a)), (2, vI l), (3, vI (nI I)), (4, vI (nI N)), (5, vI what), (6, vI (refS mu a l (nI I) (2 * nI N))), (7, vI (nI (cFm (shV mu a I N) 90 - cFm (shV mu a I N) (c + 1)))), (8, vI first), (9, vI (nI c)), (10, vI 0), (11, vI (nI p))]) dX9_filmed_196 rfl (by decide) (by rfl) (by rfl) ?_
                                refine o_iinc (v := nI (p + 1)) (L' := [(0, vC 94), (1, vI (nI a)), (2, vI l), (3, vI (nI I)), (4, vI (nI N)), (5, vI what), (6, vI (refS mu a l (nI I) (2 * nI N))), (7, vI (nI (cFm (shV mu a I N) 90 - cFm (shV mu a I N) (c + 1)))), (8, vI first), (9, vI (nI c)), (10, vI 0), (11, vI (nI (p + 1)))]) dX9_filmed_198 rfl (by rfl) (by exact nI_1 p) (by decide) (by rfl) (by rfl) ?_
                                refine o_goto (tgt := 117) dX9_filmed_201 (by decide) ?_
                                exact ihLP117 (p + 1) _ (by omega) (Or.inr ⟨rfl, fun h => c188 (by rw [g2, g4]; exact (h p hp2).2)⟩) (by omega)
                              · skip
                                refine o_iconst (v := 1) dX9_filmed_191 rfl (by decide) ?_
                                refine o_goto (tgt := 196) dX9_filmed_192 (by decide) ?_
                                refine o_istore (L' := [(0, vC 94), (1, vI (nI a)), (2, vI l), (3, vI (nI I)), (4, vI (nI N)), (5, vI what), (6, vI (refS mu a l (nI I) (2 * nI N))), (7, vI (nI (cFm (shV mu a I N) 90 - cFm (shV mu a I N) (c + 1)))), (8, vI first), (9, vI (nI c)), (10, vI 1), (11, vI (nI p))]) dX9_filmed_196 rfl (by decide) (by rfl) (by rfl) ?_
                                refine o_iinc (v := nI (p + 1)) (L' := [(0, vC 94), (1, vI (nI a)), (2, vI l), (3, vI (nI I)), (4, vI (nI N)), (5, vI what), (6, vI (refS mu a l (nI I) (2 * nI N))), (7, vI (nI (cFm (shV mu a I N) 90 - cFm (shV mu a I N) (c + 1)))), (8, vI first), (9, vI (nI c)), (10, vI 1), (11, vI (nI (p + 1)))]) dX9_filmed_198 rfl (by rfl) (by exact nI_1 p) (by decide) (by rfl) (by rfl) ?_
                                refine o_goto (tgt := 117) dX9_filmed_201 (by decide) ?_
                                exact ihLP117 (p + 1) _ (by omega) (Or.inl ⟨rfl, fun q hq9 => if e : q = p then (by rw [e]; exact ⟨by rw [← g1, ← g3]; exact c155, by rw [← g2, ← g4]; exact c188⟩) else hX1.2 q (by omega)⟩) (by omega)
                    exact LP117 (N + 1) 0 1 (by omega) (Or.inl ⟨rfl, fun q h => by omega⟩) (by omega)
              rw [show (0 : Int32) = nI (cFm (shV mu a I N) 90 - cFm (shV mu a I N) 90) by rw [Nat.sub_self]; rfl]
              exact LP89 91 90 (-4) _ (by omega) (frR.rf mu) (Or.inl ⟨rfl, fun i a b => by omega⟩) (by omega)
            · skip
              refine o_ldc dX9_filmed_75 rfl kc_X9_238 ?_
              exact o_iret hq dX9_filmed_77 (Or.inr ⟨by simp [b4, b11, b24, b37], a, N, by omega, ea, eN, hN1, hN2, Or.inr ⟨by rw [eN]; exact hr0, Or.inl ⟨hA.z.mp c72, rfl, rfl⟩⟩⟩)
          · skip
            refine o_iload dX9_filmed_61 rfl (by rfl) ?_
            refine o_ldcw dX9_filmed_63 rfl kc_X9_265 ?_
            refine o_isub dX9_filmed_66 rfl ?_
            exact o_iret hq dX9_filmed_67 (Or.inr ⟨by simp [b4, b11, b24, b37], a, N, by omega, ea, eN, hN1, hN2, Or.inl ⟨fun h9 => c58 (by rw [eN] at h9; rw [h9]; decide), by rw [eN], rfl⟩⟩)
        · skip
          have b37 := (if10 h4).1 c37
          refine o_ldc dX9_filmed_40 rfl kc_X9_99 ?_
          exact o_iret hq dX9_filmed_42 (Or.inl ⟨by simp [b4, b11, b24, b37], rfl, rfl⟩)
