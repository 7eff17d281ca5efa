/-! ===== the reference: what is told ===== -/
def PT (mu m : Mu) (k b n : Nat) (V : Vc) : Prop := (∀ q, q ≠ k → m q = mu q) ∧ (∀ j, (j < b ∨ b + n ≤ j) → m k j = mu k j) ∧ ∀ j, j < n → m k (b + j) = V j
theorem PT.nil (mu : Mu) (k b : Nat) (V : Vc) : PT mu mu k b 0 V := ⟨fun _ _ => rfl, fun _ _ => rfl, fun j h => by omega⟩
theorem PT.go {mu m : Mu} {k b t ix : Nat} {V : Vc} {v : Int32} (ei : ix = b + t) (ev : v = V t) (h : PT mu m k b t V) : PT mu (upF m k ix v) k b (t + 1) V := by
  obtain ⟨h1, h2, h3⟩ := h
  subst ei ev
  refine ⟨fun q hq => by rw [upF_k hq]; exact h1 q hq, fun j hj => by rw [upF_i (by omega)]; exact h2 j (by omega), fun j hj => ?_⟩
  by_cases e : j = t
  · subst e; exact upF_s
  · rw [upF_i (by omega)]; exact h3 j (by omega)
theorem ixl {a z t : Nat} (h : a * z + t < 2 ^ 31) : (nI a * nI z + nI t).toNatClampNeg = a * z + t := by rw [pk_mul, nI_add, nI_clamp h]
theorem ixm {a z : Nat} (h : a * z < 2 ^ 31) : (nI a * nI z).toNatClampNeg = a * z := by rw [pk_mul, nI_clamp h]
theorem ixb {a z t n : Nat} (h : a * z + t < n) (hn : n < 2 ^ 31) : vp_in (nI a * nI z + nI t) n := by rw [pk_mul, nI_add]; exact vp_in_nI h hn
theorem ixc {a z n : Nat} (h : a * z < n) (hn : n < 2 ^ 31) : vp_in (nI a * nI z) n := by rw [pk_mul]; exact vp_in_nI h hn
theorem hsB_nI {z : Nat} {x : Int32} (hz : z < 1000000) (h : hsB (nI z) x = true) : ∃ i, x = nI i ∧ i < z := by
  obtain ⟨h0, h1⟩ := of_decide_eq_true h
  obtain ⟨i, e1, e2⟩ := nI_of h0
  subst e2
  exact ⟨i, rfl, nI_dec h1 e1 (by omega)⟩
set_option maxHeartbeats 4000000 in
set_option maxRecDepth 100000 in
theorem c_X9_cupIs (mu : Mu) (z : Nat) (hz : z < 4) (x y w wo sp : Int32) : ConV yX9_cupIs cX9_cupIs 7 0 [vC 94, vI (nI z), vI x, vI y, vI w, vI wo, vI sp] mu (fun mu2 => PT mu mu2 96 (5 * z) 5 (fun j => if j = 0 then x else if j = 1 then y else if j = 2 then w else if j = 3 then wo else sp)) := by
  refine conV_of (own := RX9) (by decide) rfl (Nat.le_of_ble_eq_true rfl) (fun X g hq => ?_)
  show WA X g RX9 7 cX9_cupIs 0 [(0, vC 94), (1, vI (nI z)), (2, vI x), (3, vI y), (4, vI w), (5, vI wo), (6, vI sp)] [] mu
  refine o_aload_n dX9_cupIs_0 rfl rfl (by rfl) ?_
  refine o_getC (q := 96) cl_X9_13 dX9_cupIs_1 rfl (by decide) (by rfl) (by rfl) ?_
  refine o_iconst (v := 5) dX9_cupIs_4 rfl (by decide) ?_
  refine o_iload_n dX9_cupIs_5 rfl rfl (by rfl) ?_
  refine o_imul dX9_cupIs_6 rfl ?_
  refine o_iload_n dX9_cupIs_7 rfl rfl (by rfl) ?_
  refine o_iast dX9_cupIs_8 rfl (by decide) (by rfl) (by rfl) (ixc (a := 5) (by omega) (by decide)) ?_
  refine o_aload_n dX9_cupIs_9 rfl rfl (by rfl) ?_
  refine o_getC (q := 96) cl_X9_13 dX9_cupIs_10 rfl (by decide) (by rfl) (by rfl) ?_
  refine o_iconst (v := 5) dX9_cupIs_13 rfl (by decide) ?_
  refine o_iload_n dX9_cupIs_14 rfl rfl (by rfl) ?_
  refine o_imul dX9_cupIs_15 rfl ?_
  refine o_iconst (v := 1) dX9_cupIs_16 rfl (by decide) ?_
  refine o_iadd dX9_cupIs_17 rfl ?_
  refine o_iload_n dX9_cupIs_18 rfl rfl (by rfl) ?_
  refine o_iast dX9_cupIs_19 rfl (by decide) (by rfl) (by rfl) (ixb (a := 5) (t := 1) (by omega) (by decide)) ?_
  refine o_aload_n dX9_cupIs_20 rfl rfl (by rfl) ?_
  refine o_getC (q := 96) cl_X9_13 dX9_cupIs_21 rfl (by decide) (by rfl) (by rfl) ?_
  refine o_iconst (v := 5) dX9_cupIs_24 rfl (by decide) ?_
  refine o_iload_n dX9_cupIs_25 rfl rfl (by rfl) ?_
  refine o_imul dX9_cupIs_26 rfl ?_
  refine o_iconst (v := 2) dX9_cupIs_27 rfl (by decide) ?_
  refine o_iadd dX9_cupIs_28 rfl ?_
  refine o_iload dX9_cupIs_29 rfl (by rfl) ?_
  refine o_iast dX9_cupIs_31 rfl (by decide) (by rfl) (by rfl) (ixb (a := 5) (t := 2) (by omega) (by decide)) ?_
  refine o_aload_n dX9_cupIs_32 rfl rfl (by rfl) ?_
  refine o_getC (q := 96) cl_X9_13 dX9_cupIs_33 rfl (by decide) (by rfl) (by rfl) ?_
  refine o_iconst (v := 5) dX9_cupIs_36 rfl (by decide) ?_
  refine o_iload_n dX9_cupIs_37 rfl rfl (by rfl) ?_
  refine o_imul dX9_cupIs_38 rfl ?_
  refine o_iconst (v := 3) dX9_cupIs_39 rfl (by decide) ?_
  refine o_iadd dX9_cupIs_40 rfl ?_
  refine o_iload dX9_cupIs_41 rfl (by rfl) ?_
  refine o_iast dX9_cupIs_43 rfl (by decide) (by rfl) (by rfl) (ixb (a := 5) (t := 3) (by omega) (by decide)) ?_
  refine o_aload_n dX9_cupIs_44 rfl rfl (by rfl) ?_
  refine o_getC (q := 96) cl_X9_13 dX9_cupIs_45 rfl (by decide) (by rfl) (by rfl) ?_
  refine o_iconst (v := 5) dX9_cupIs_48 rfl (by decide) ?_
  refine o_iload_n dX9_cupIs_49 rfl rfl (by rfl) ?_
  refine o_imul dX9_cupIs_50 rfl ?_
  refine o_iconst (v := 4) dX9_cupIs_51 rfl (by decide) ?_
  refine o_iadd dX9_cupIs_52 rfl ?_
  refine o_iload dX9_cupIs_53 rfl (by rfl) ?_
  refine o_iast dX9_cupIs_55 rfl (by decide) (by rfl) (by rfl) (ixb (a := 5) (t := 4) (by omega) (by decide)) ?_
  exact o_vret hq dX9_cupIs_56 (PT.go (ixl (a := 5) (t := 4) (by omega)) rfl (PT.go (ixl (a := 5) (t := 3) (by omega)) rfl (PT.go (ixl (a := 5) (t := 2) (by omega)) rfl (PT.go (ixl (a := 5) (t := 1) (by omega)) rfl (PT.go (ixm (a := 5) (by omega)) rfl (PT.nil mu 96 (5 * z) (fun j => if j = 0 then x else if j = 1 then y else if j = 2 then w else if j = 3 then wo else sp)))))))
set_option maxHeartbeats 4000000 in
set_option maxRecDepth 100000 in
theorem c_X9_partIs (mu : Mu) (z : Nat) (hz : z < 6) (stp u v : Int32) : ConV yX9_partIs cX9_partIs 5 0 [vC 94, vI (nI z), vI stp, vI u, vI v] mu (fun mu2 => PT mu mu2 97 (3 * z) 3 (fun j => if j = 0 then stp else if j = 1 then u else v)) := by
  refine conV_of (own := RX9) (by decide) rfl (Nat.le_of_ble_eq_true rfl) (fun X g hq => ?_)
  show WA X g RX9 5 cX9_partIs 0 [(0, vC 94), (1, vI (nI z)), (2, vI stp), (3, vI u), (4, vI v)] [] mu
  refine o_aload_n dX9_partIs_0 rfl rfl (by rfl) ?_
  refine o_getC (q := 97) cl_X9_16 dX9_partIs_1 rfl (by decide) (by rfl) (by rfl) ?_
  refine o_iconst (v := 3) dX9_partIs_4 rfl (by decide) ?_
  refine o_iload_n dX9_partIs_5 rfl rfl (by rfl) ?_
  refine o_imul dX9_partIs_6 rfl ?_
  refine o_iload_n dX9_partIs_7 rfl rfl (by rfl) ?_
  refine o_iast dX9_partIs_8 rfl (by decide) (by rfl) (by rfl) (ixc (a := 3) (by omega) (by decide)) ?_
  refine o_aload_n dX9_partIs_9 rfl rfl (by rfl) ?_
  refine o_getC (q := 97) cl_X9_16 dX9_partIs_10 rfl (by decide) (by rfl) (by rfl) ?_
  refine o_iconst (v := 3) dX9_partIs_13 rfl (by decide) ?_
  refine o_iload_n dX9_partIs_14 rfl rfl (by rfl) ?_
  refine o_imul dX9_partIs_15 rfl ?_
  refine o_iconst (v := 1) dX9_partIs_16 rfl (by decide) ?_
  refine o_iadd dX9_partIs_17 rfl ?_
  refine o_iload_n dX9_partIs_18 rfl rfl (by rfl) ?_
  refine o_iast dX9_partIs_19 rfl (by decide) (by rfl) (by rfl) (ixb (a := 3) (t := 1) (by omega) (by decide)) ?_
  refine o_aload_n dX9_partIs_20 rfl rfl (by rfl) ?_
  refine o_getC (q := 97) cl_X9_16 dX9_partIs_21 rfl (by decide) (by rfl) (by rfl) ?_
  refine o_iconst (v := 3) dX9_partIs_24 rfl (by decide) ?_
  refine o_iload_n dX9_partIs_25 rfl rfl (by rfl) ?_
  refine o_imul dX9_partIs_26 rfl ?_
  refine o_iconst (v := 2) dX9_partIs_27 rfl (by decide) ?_
  refine o_iadd dX9_partIs_28 rfl ?_
  refine o_iload dX9_partIs_29 rfl (by rfl) ?_
  refine o_iast dX9_partIs_31 rfl (by decide) (by rfl) (by rfl) (ixb (a := 3) (t := 2) (by omega) (by decide)) ?_
  exact o_vret hq dX9_partIs_32 (PT.go (ixl (a := 3) (t := 2) (by omega)) rfl (PT.go (ixl (a := 3) (t := 1) (by omega)) rfl (PT.go (ixm (a := 3) (by omega)) rfl (PT.nil mu 97 (3 * z) (fun j => if j = 0 then stp else if j = 1 then u else v)))))
theorem bk1 {z : Nat} : nI (z + 1) - 1 = nI z := by rw [← nI_1]; exact add_sub1 _
set_option maxHeartbeats 4000000 in
set_option maxRecDepth 100000 in
theorem c_X9_cup (mu : Mu) (nc : Nat) (hnc4 : nc ≤ 4) (enc : mu 94 1 = nI nc) (x y w wo spk : Int32) : Con yX9_cup cX9_cup 6 (some .int) 2 [vC 94, vI x, vI y, vI w, vI wo, vI spk] mu (fun r mu2 => ((inB x (-9) 9 && inB y (-9) 9 && inB w 0 9 && inB wo 0 99) = false ∧ r = -1 ∧ mu2 = mu) ∨ ((inB x (-9) 9 && inB y (-9) 9 && inB w 0 9 && inB wo 0 99) = true ∧ nc = 4 ∧ r = -3 ∧ mu2 = mu) ∨ ((inB x (-9) 9 && inB y (-9) 9 && inB w 0 9 && inB wo 0 99) = true ∧ nc < 4 ∧ r = nI nc ∧ ∃ m, PT mu m 96 (5 * nc) 5 (fun j => if j = 0 then x else if j = 1 then y else if j = 2 then w else if j = 3 then wo else (if spk = 0 then 0 else 1)) ∧ mu2 = upF m 94 1 (nI (nc + 1)))) := by
  refine con_of (own := RX9) (by decide) rfl (Nat.le_of_ble_eq_true rfl) (fun X g hq => ?_)
  show WA X g RX9 6 cX9_cup 0 [(0, vC 94), (1, vI x), (2, vI y), (3, vI w), (4, vI wo), (5, vI spk)] [] mu
  refine o_iload_n dX9_cup_0 rfl rfl (by rfl) ?_
  refine o_i2l dX9_cup_1 rfl ?_
  refine o_ldc2 dX9_cup_2 rfl kc_X9_85 ?_
  refine o_ldc2 dX9_cup_5 rfl kc_X9_87 ?_
  refine o_callS cs_X9_in ct_X9_71 (c_in _ x (-9) 9) hq.2.2.2 (Nat.le_of_ble_eq_true rfl) dX9_cup_8 rfl rfl rfl (Nat.le_of_ble_eq_true rfl) (fun r1 mu1 h1 => ?_)
  obtain ⟨em, h1⟩ := h1
  rw [em]
  refine o_if_eq (tgt := 53) dX9_cup_11 (by decide) rfl (fun (c11 : r1 = 0) => ?_) (fun (c11 : ¬ r1 = 0) => ?_)
  · skip
    have b11 := (if10 h1).1 c11
    refine o_iconst (v := (-1)) dX9_cup_53 rfl (by decide) ?_
    exact o_iret hq dX9_cup_54 (Or.inl ⟨by simp [b11], rfl, rfl⟩)
  · skip
    have b11 := (if10 h1).2 c11
    refine o_iload_n dX9_cup_14 rfl rfl (by rfl) ?_
    refine o_i2l dX9_cup_15 rfl ?_
    refine o_ldc2 dX9_cup_16 rfl kc_X9_85 ?_
    refine o_ldc2 dX9_cup_19 rfl kc_X9_87 ?_
    refine o_callS cs_X9_in ct_X9_71 (c_in _ y (-9) 9) hq.2.2.2 (Nat.le_of_ble_eq_true rfl) dX9_cup_22 rfl rfl rfl (Nat.le_of_ble_eq_true rfl) (fun r2 mu2 h2 => ?_)
    obtain ⟨em, h2⟩ := h2
    rw [em]
    refine o_if_eq (tgt := 53) dX9_cup_25 (by decide) rfl (fun (c25 : r2 = 0) => ?_) (fun (c25 : ¬ r2 = 0) => ?_)
    · skip
      have b25 := (if10 h2).1 c25
      refine o_iconst (v := (-1)) dX9_cup_53 rfl (by decide) ?_
      exact o_iret hq dX9_cup_54 (Or.inl ⟨by simp [b11, b25], rfl, rfl⟩)
    · skip
      have b25 := (if10 h2).2 c25
      refine o_iload_n dX9_cup_28 rfl rfl (by rfl) ?_
      refine o_i2l dX9_cup_29 rfl ?_
      refine o_lconst (v := 0) dX9_cup_30 rfl (by decide) ?_
      refine o_ldc2 dX9_cup_31 rfl kc_X9_87 ?_
      refine o_callS cs_X9_in ct_X9_71 (c_in _ w 0 9) hq.2.2.2 (Nat.le_of_ble_eq_true rfl) dX9_cup_34 rfl rfl rfl (Nat.le_of_ble_eq_true rfl) (fun r3 mu3 h3 => ?_)
      obtain ⟨em, h3⟩ := h3
      rw [em]
      refine o_if_eq (tgt := 53) dX9_cup_37 (by decide) rfl (fun (c37 : r3 = 0) => ?_) (fun (c37 : ¬ r3 = 0) => ?_)
      · skip
        have b37 := (if10 h3).1 c37
        refine o_iconst (v := (-1)) dX9_cup_53 rfl (by decide) ?_
        exact o_iret hq dX9_cup_54 (Or.inl ⟨by simp [b11, b25, b37], rfl, rfl⟩)
      · skip
        have b37 := (if10 h3).2 c37
        refine o_iload dX9_cup_40 rfl (by rfl) ?_
        refine o_i2l dX9_cup_42 rfl ?_
        refine o_lconst (v := 0) dX9_cup_43 rfl (by decide) ?_
        refine o_ldc2 dX9_cup_44 rfl kc_X9_89 ?_
        refine o_callS cs_X9_in ct_X9_71 (c_in _ wo 0 99) hq.2.2.2 (Nat.le_of_ble_eq_true rfl) dX9_cup_47 rfl rfl rfl (Nat.le_of_ble_eq_true rfl) (fun r4 mu4 h4 => ?_)
        obtain ⟨em, h4⟩ := h4
        rw [em]
        refine o_if_ne (tgt := 55) dX9_cup_50 (by decide) rfl (fun (c50 : ¬ r4 = 0) => ?_) (fun (c50 : r4 = 0) => ?_)
        · skip
          have b50 := (if10 h4).2 c50
          refine o_aload_n dX9_cup_55 rfl rfl (by rfl) ?_
          refine o_getI cl_X9_68 dX9_cup_56 rfl (by decide) (by rfl) (by rfl) ?_
          refine o_iconst (v := 4) dX9_cup_59 rfl (by decide) ?_
          refine o_icmp_ne (tgt := 66) dX9_cup_60 (by decide) rfl (fun (c60 : ¬ (mu 94 1) = 4) => ?_) (fun (c60 : (mu 94 1) = 4) => ?_)
          · skip
            have hlt : nc < 4 := by rw [enc] at c60; have : ¬ nc = 4 := fun e => c60 (by rw [e]; rfl); omega
            refine o_aload_n dX9_cup_66 rfl rfl (by rfl) ?_
            refine o_aload_n dX9_cup_67 rfl rfl (by rfl) ?_
            refine o_getI cl_X9_68 dX9_cup_68 rfl (by decide) (by rfl) (by rfl) ?_
            refine o_iload_n dX9_cup_71 rfl rfl (by rfl) ?_
            refine o_iload_n dX9_cup_72 rfl rfl (by rfl) ?_
            refine o_iload_n dX9_cup_73 rfl rfl (by rfl) ?_
            refine o_iload dX9_cup_74 rfl (by rfl) ?_
            refine o_iload dX9_cup_76 rfl (by rfl) ?_
            refine o_if_eq (tgt := 85) dX9_cup_78 (by decide) rfl (fun (c78 : spk = 0) => ?_) (fun (c78 : ¬ spk = 0) => ?_)
            · skip
              refine o_iconst (v := 0) dX9_cup_85 rfl (by decide) ?_
              rw [enc]
              refine o_callVV cs_X9_cupIs cv_X9_91 (c_X9_cupIs _ nc hlt x y w wo 0) hq.2.2.2 (Nat.le_of_ble_eq_true rfl) dX9_cup_86 rfl (by decide) (by rfl) (by rfl) (by rfl) rfl rfl (Nat.le_of_ble_eq_true rfl) (fun mC hC => ?_)
              have e94 : mC 94 = mu 94 := hC.1 94 (by decide)
              refine o_aload_n dX9_cup_89 rfl rfl (by rfl) ?_
              refine o_dup dX9_cup_90 rfl rfl ?_
              refine o_getI cl_X9_68 dX9_cup_91 rfl (by decide) (by rfl) (by rfl) ?_
              refine o_iconst (v := 1) dX9_cup_94 rfl (by decide) ?_
              refine o_iadd dX9_cup_95 rfl ?_
              refine o_put cl_X9_68 cp_X9_1 dX9_cup_96 rfl (by decide) (by rfl) (by rfl) fitI ?_
              refine o_aload_n dX9_cup_99 rfl rfl (by rfl) ?_
              refine o_getI cl_X9_68 dX9_cup_100 rfl (by decide) (by rfl) (by rfl) ?_
              refine o_iconst (v := 1) dX9_cup_103 rfl (by decide) ?_
              refine o_isub dX9_cup_104 rfl ?_
              exact o_iret hq dX9_cup_105 (Or.inr (Or.inr ⟨by simp [b11, b25, b37, b50], hlt, by rw [upF_s, e94, enc, nI_1, bk1], mC, by rw [if_pos c78]; exact hC, by rw [e94, enc, nI_1]⟩))
            · skip
              refine o_iconst (v := 1) dX9_cup_81 rfl (by decide) ?_
              refine o_goto (tgt := 86) dX9_cup_82 (by decide) ?_
              rw [enc]
              refine o_callVV cs_X9_cupIs cv_X9_91 (c_X9_cupIs _ nc hlt x y w wo 1) hq.2.2.2 (Nat.le_of_ble_eq_true rfl) dX9_cup_86 rfl (by decide) (by rfl) (by rfl) (by rfl) rfl rfl (Nat.le_of_ble_eq_true rfl) (fun mC hC => ?_)
              have e94 : mC 94 = mu 94 := hC.1 94 (by decide)
              refine o_aload_n dX9_cup_89 rfl rfl (by rfl) ?_
              refine o_dup dX9_cup_90 rfl rfl ?_
              refine o_getI cl_X9_68 dX9_cup_91 rfl (by decide) (by rfl) (by rfl) ?_
              refine o_iconst (v := 1) dX9_cup_94 rfl (by decide) ?_
              refine o_iadd dX9_cup_95 rfl ?_
              refine o_put cl_X9_68 cp_X9_1 dX9_cup_96 rfl (by decide) (by rfl) (by rfl) fitI ?_
              refine o_aload_n dX9_cup_99 rfl rfl (by rfl) ?_
              refine o_getI cl_X9_68 dX9_cup_100 rfl (by decide) (by rfl) (by rfl) ?_
              refine o_iconst (v := 1) dX9_cup_103 rfl (by decide) ?_
              refine o_isub dX9_cup_104 rfl ?_
              exact o_iret hq dX9_cup_105 (Or.inr (Or.inr ⟨by simp [b11, b25, b37, b50], hlt, by rw [upF_s, e94, enc, nI_1, bk1], mC, by rw [if_neg c78]; exact hC, by rw [e94, enc, nI_1]⟩))
          · skip
            have heq : nc = 4 := by rw [enc] at c60; exact (nI_eq (by omega) (by decide)).mp c60
            refine o_bipush (v := (-3)) dX9_cup_63 rfl (by decide) ?_
            exact o_iret hq dX9_cup_65 (Or.inr (Or.inl ⟨by simp [b11, b25, b37, b50], heq, rfl, rfl⟩))
        · skip
          have b50 := (if10 h4).1 c50
          refine o_iconst (v := (-1)) dX9_cup_53 rfl (by decide) ?_
          exact o_iret hq dX9_cup_54 (Or.inl ⟨by simp [b11, b25, b37, b50], rfl, rfl⟩)
set_option maxHeartbeats 4000000 in
set_option maxRecDepth 100000 in
theorem c_X9_part (mu : Mu) (np : Nat) (hnp6 : np ≤ 6) (enp : mu 94 3 = nI np) (stp u v : Int32) : Con yX9_part cX9_part 4 (some .int) 2 [vC 94, vI stp, vI u, vI v] mu (fun r mu2 => ((inB u (-9) 9 && inB v (-9) 9 && inB stp 1 20) = false ∧ r = -1 ∧ mu2 = mu) ∨ ((inB u (-9) 9 && inB v (-9) 9 && inB stp 1 20) = true ∧ np = 6 ∧ r = -3 ∧ mu2 = mu) ∨ ((inB u (-9) 9 && inB v (-9) 9 && inB stp 1 20) = true ∧ np < 6 ∧ r = nI np ∧ ∃ m, PT mu m 97 (3 * np) 3 (fun j => if j = 0 then stp else if j = 1 then u else v) ∧ mu2 = upF m 94 3 (nI (np + 1)))) := by
  refine con_of (own := RX9) (by decide) rfl (Nat.le_of_ble_eq_true rfl) (fun X g hq => ?_)
  show WA X g RX9 4 cX9_part 0 [(0, vC 94), (1, vI stp), (2, vI u), (3, vI v)] [] mu
  refine o_iload_n dX9_part_0 rfl rfl (by rfl) ?_
  refine o_i2l dX9_part_1 rfl ?_
  refine o_lconst (v := 1) dX9_part_2 rfl (by decide) ?_
  refine o_ldc2 dX9_part_3 rfl kc_X9_83 ?_
  refine o_callS cs_X9_in ct_X9_71 (c_in _ stp 1 20) hq.2.2.2 (Nat.le_of_ble_eq_true rfl) dX9_part_6 rfl rfl rfl (Nat.le_of_ble_eq_true rfl) (fun r1 mu1 h1 => ?_)
  obtain ⟨em, h1⟩ := h1
  rw [em]
  refine o_if_eq (tgt := 40) dX9_part_9 (by decide) rfl (fun (c9 : r1 = 0) => ?_) (fun (c9 : ¬ r1 = 0) => ?_)
  · skip
    have b9 := (if10 h1).1 c9
    refine o_iconst (v := (-1)) dX9_part_40 rfl (by decide) ?_
    exact o_iret hq dX9_part_41 (Or.inl ⟨by simp [b9], rfl, rfl⟩)
  · skip
    have b9 := (if10 h1).2 c9
    refine o_iload_n dX9_part_12 rfl rfl (by rfl) ?_
    refine o_i2l dX9_part_13 rfl ?_
    refine o_ldc2 dX9_part_14 rfl kc_X9_85 ?_
    refine o_ldc2 dX9_part_17 rfl kc_X9_87 ?_
    refine o_callS cs_X9_in ct_X9_71 (c_in _ u (-9) 9) hq.2.2.2 (Nat.le_of_ble_eq_true rfl) dX9_part_20 rfl rfl rfl (Nat.le_of_ble_eq_true rfl) (fun r2 mu2 h2 => ?_)
    obtain ⟨em, h2⟩ := h2
    rw [em]
    refine o_if_eq (tgt := 40) dX9_part_23 (by decide) rfl (fun (c23 : r2 = 0) => ?_) (fun (c23 : ¬ r2 = 0) => ?_)
    · skip
      have b23 := (if10 h2).1 c23
      refine o_iconst (v := (-1)) dX9_part_40 rfl (by decide) ?_
      exact o_iret hq dX9_part_41 (Or.inl ⟨by simp [b9, b23], rfl, rfl⟩)
    · skip
      have b23 := (if10 h2).2 c23
      refine o_iload_n dX9_part_26 rfl rfl (by rfl) ?_
      refine o_i2l dX9_part_27 rfl ?_
      refine o_ldc2 dX9_part_28 rfl kc_X9_85 ?_
      refine o_ldc2 dX9_part_31 rfl kc_X9_87 ?_
      refine o_callS cs_X9_in ct_X9_71 (c_in _ v (-9) 9) hq.2.2.2 (Nat.le_of_ble_eq_true rfl) dX9_part_34 rfl rfl rfl (Nat.le_of_ble_eq_true rfl) (fun r3 mu3 h3 => ?_)
      obtain ⟨em, h3⟩ := h3
      rw [em]
      refine o_if_ne (tgt := 42) dX9_part_37 (by decide) rfl (fun (c37 : ¬ r3 = 0) => ?_) (fun (c37 : r3 = 0) => ?_)
      · skip
        have b37 := (if10 h3).2 c37
        refine o_aload_n dX9_part_42 rfl rfl (by rfl) ?_
        refine o_getI cl_X9_100 dX9_part_43 rfl (by decide) (by rfl) (by rfl) ?_
        refine o_bipush (v := 6) dX9_part_46 rfl (by decide) ?_
        refine o_icmp_ne (tgt := 54) dX9_part_48 (by decide) rfl (fun (c48 : ¬ (mu 94 3) = 6) => ?_) (fun (c48 : (mu 94 3) = 6) => ?_)
        · skip
          have hlt : np < 6 := by rw [enp] at c48; have : ¬ np = 6 := fun e => c48 (by rw [e]; rfl); omega
          refine o_aload_n dX9_part_54 rfl rfl (by rfl) ?_
          refine o_aload_n dX9_part_55 rfl rfl (by rfl) ?_
          refine o_getI cl_X9_100 dX9_part_56 rfl (by decide) (by rfl) (by rfl) ?_
          refine o_iload_n dX9_part_59 rfl rfl (by rfl) ?_
          refine o_iload_n dX9_part_60 rfl rfl (by rfl) ?_
          refine o_iload_n dX9_part_61 rfl rfl (by rfl) ?_
          rw [enp]
          refine o_callVV cs_X9_partIs cv_X9_103 (c_X9_partIs _ np hlt stp u v) hq.2.2.2 (Nat.le_of_ble_eq_true rfl) dX9_part_62 rfl (by decide) (by rfl) (by rfl) (by rfl) rfl rfl (Nat.le_of_ble_eq_true rfl) (fun mC hC => ?_)
          have e94 : mC 94 = mu 94 := hC.1 94 (by decide)
          refine o_aload_n dX9_part_65 rfl rfl (by rfl) ?_
          refine o_dup dX9_part_66 rfl rfl ?_
          refine o_getI cl_X9_100 dX9_part_67 rfl (by decide) (by rfl) (by rfl) ?_
          refine o_iconst (v := 1) dX9_part_70 rfl (by decide) ?_
          refine o_iadd dX9_part_71 rfl ?_
          refine o_put cl_X9_100 cp_X9_3 dX9_part_72 rfl (by decide) (by rfl) (by rfl) fitI ?_
          refine o_aload_n dX9_part_75 rfl rfl (by rfl) ?_
          refine o_getI cl_X9_100 dX9_part_76 rfl (by decide) (by rfl) (by rfl) ?_
          refine o_iconst (v := 1) dX9_part_79 rfl (by decide) ?_
          refine o_isub dX9_part_80 rfl ?_
          exact o_iret hq dX9_part_81 (Or.inr (Or.inr ⟨by simp [b9, b23, b37], hlt, by rw [upF_s, e94, enp, nI_1, bk1], mC, hC, by rw [e94, enp, nI_1]⟩))
        · skip
          have heq : np = 6 := by rw [enp] at c48; exact (nI_eq (by omega) (by decide)).mp c48
          refine o_bipush (v := (-3)) dX9_part_51 rfl (by decide) ?_
          exact o_iret hq dX9_part_53 (Or.inr (Or.inl ⟨by simp [b9, b23, b37], heq, rfl, rfl⟩))
      · skip
        have b37 := (if10 h3).1 c37
        refine o_iconst (v := (-1)) dX9_part_40 rfl (by decide) ?_
        exact o_iret hq dX9_part_41 (Or.inl ⟨by simp [b9, b23, b37], rfl, rfl⟩)
theorem trick_m {mu : Mu} {nt : Nat} {od sec worth may : Int32} (ent : mu 94 5 = nI nt) (hlt : nt < 8) : ∃ m, PT mu m 98 (4 * nt) 4 (fun j => if j = 0 then od else if j = 1 then sec else if j = 2 then worth else may) ∧ upF (upF (upF (upF (upF mu 98 (4 * mu 94 5).toNatClampNeg od) 98 (4 * (upF mu 98 (4 * mu 94 5).toNatClampNeg od) 94 5 + 1).toNatClampNeg sec) 98 (4 * (upF (upF mu 98 (4 * mu 94 5).toNatClampNeg od) 98 (4 * (upF mu 98 (4 * mu 94 5).toNatClampNeg od) 94 5 + 1).toNatClampNeg sec) 94 5 + 2).toNatClampNeg worth) 98 (4 * (upF (upF (upF mu 98 (4 * mu 94 5).toNatClampNeg od) 98 (4 * (upF mu 98 (4 * mu 94 5).toNatClampNeg od) 94 5 + 1).toNatClampNeg sec) 98 (4 * (upF (upF mu 98 (4 * mu 94 5).toNatClampNeg od) 98 (4 * (upF mu 98 (4 * mu 94 5).toNatClampNeg od) 94 5 + 1).toNatClampNeg sec) 94 5 + 2).toNatClampNeg worth) 94 5 + 3).toNatClampNeg may) 94 5 (upF (upF (upF (upF mu 98 (4 * mu 94 5).toNatClampNeg od) 98 (4 * (upF mu 98 (4 * mu 94 5).toNatClampNeg od) 94 5 + 1).toNatClampNeg sec) 98 (4 * (upF (upF mu 98 (4 * mu 94 5).toNatClampNeg od) 98 (4 * (upF mu 98 (4 * mu 94 5).toNatClampNeg od) 94 5 + 1).toNatClampNeg sec) 94 5 + 2).toNatClampNeg worth) 98 (4 * (upF (upF (upF mu 98 (4 * mu 94 5).toNatClampNeg od) 98 (4 * (upF mu 98 (4 * mu 94 5).toNatClampNeg od) 94 5 + 1).toNatClampNeg sec) 98 (4 * (upF (upF mu 98 (4 * mu 94 5).toNatClampNeg od) 98 (4 * (upF mu 98 (4 * mu 94 5).toNatClampNeg od) 94 5 + 1).toNatClampNeg sec) 94 5 + 2).toNatClampNeg worth) 94 5 + 3).toNatClampNeg may 94 5 + 1) = upF m 94 5 (nI (nt + 1)) := by
  have q0 : (4 * nI nt).toNatClampNeg = 4 * nt := ixm (a := 4) (by omega)
  have q1 : (4 * nI nt + 1).toNatClampNeg = 4 * nt + 1 := ixl (a := 4) (t := 1) (by omega)
  have q2 : (4 * nI nt + 2).toNatClampNeg = 4 * nt + 2 := ixl (a := 4) (t := 2) (by omega)
  have q3 : (4 * nI nt + 3).toNatClampNeg = 4 * nt + 3 := ixl (a := 4) (t := 3) (by omega)
  refine ⟨upF (upF (upF (upF mu 98 (4 * nt) od) 98 (4 * nt + 1) sec) 98 (4 * nt + 2) worth) 98 (4 * nt + 3) may, PT.go rfl rfl (PT.go rfl rfl (PT.go rfl rfl (PT.go rfl rfl (PT.nil mu 98 (4 * nt) _)))), ?_⟩
  simp only [upF_k (show (94 : Nat) ≠ 98 by decide), ent, q0, q1, q2, q3, nI_1]
set_option maxHeartbeats 4000000 in
set_option maxRecDepth 100000 in
theorem c_X9_trick (mu : Mu) (nt : Nat) (hnt8 : nt ≤ 8) (ent : mu 94 5 = nI nt) (od sec worth may : Int32) : Con yX9_trick cX9_trick 5 (some .int) 1 [vC 94, vI od, vI sec, vI worth, vI may] mu (fun r mu2 => ((inB od 0 16 && inB worth 0 99 && inB sec 1 60 && inB may 1 9) = false ∧ r = -1 ∧ mu2 = mu) ∨ ((inB od 0 16 && inB worth 0 99 && inB sec 1 60 && inB may 1 9) = true ∧ nt = 8 ∧ r = -3 ∧ mu2 = mu) ∨ ((inB od 0 16 && inB worth 0 99 && inB sec 1 60 && inB may 1 9) = true ∧ nt < 8 ∧ r = nI nt ∧ ∃ m, PT mu m 98 (4 * nt) 4 (fun j => if j = 0 then od else if j = 1 then sec else if j = 2 then worth else may) ∧ mu2 = upF m 94 5 (nI (nt + 1)))) := by
  refine con_of (own := RX9) (by decide) rfl (Nat.le_of_ble_eq_true rfl) (fun X g hq => ?_)
  show WA X g RX9 5 cX9_trick 0 [(0, vC 94), (1, vI od), (2, vI sec), (3, vI worth), (4, vI may)] [] mu
  refine o_iload_n dX9_trick_0 rfl rfl (by rfl) ?_
  refine o_i2l dX9_trick_1 rfl ?_
  refine o_lconst (v := 0) dX9_trick_2 rfl (by decide) ?_
  refine o_ldc2 dX9_trick_3 rfl kc_X9_247 ?_
  refine o_callS cs_X9_in ct_X9_71 (c_in _ od 0 16) hq.2.2.2 (Nat.le_of_ble_eq_true rfl) dX9_trick_6 rfl rfl rfl (Nat.le_of_ble_eq_true rfl) (fun r1 mu1 h1 => ?_)
  obtain ⟨em, h1⟩ := h1
  rw [em]
  refine o_if_eq (tgt := 49) dX9_trick_9 (by decide) rfl (fun (c9 : r1 = 0) => ?_) (fun (c9 : ¬ r1 = 0) => ?_)
  · skip
    have b9 := (if10 h1).1 c9
    refine o_iconst (v := (-1)) dX9_trick_49 rfl (by decide) ?_
    exact o_iret hq dX9_trick_50 (Or.inl ⟨by simp [b9], rfl, rfl⟩)
  · skip
    have b9 := (if10 h1).2 c9
    refine o_iload_n dX9_trick_12 rfl rfl (by rfl) ?_
    refine o_i2l dX9_trick_13 rfl ?_
    refine o_lconst (v := 1) dX9_trick_14 rfl (by decide) ?_
    refine o_ldc2 dX9_trick_15 rfl kc_X9_79 ?_
    refine o_callS cs_X9_in ct_X9_71 (c_in _ sec 1 60) hq.2.2.2 (Nat.le_of_ble_eq_true rfl) dX9_trick_18 rfl rfl rfl (Nat.le_of_ble_eq_true rfl) (fun r2 mu2 h2 => ?_)
    obtain ⟨em, h2⟩ := h2
    rw [em]
    refine o_if_eq (tgt := 49) dX9_trick_21 (by decide) rfl (fun (c21 : r2 = 0) => ?_) (fun (c21 : ¬ r2 = 0) => ?_)
    · skip
      have b21 := (if10 h2).1 c21
      refine o_iconst (v := (-1)) dX9_trick_49 rfl (by decide) ?_
      exact o_iret hq dX9_trick_50 (Or.inl ⟨by simp [b9, b21], rfl, rfl⟩)
    · skip
      have b21 := (if10 h2).2 c21
      refine o_iload_n dX9_trick_24 rfl rfl (by rfl) ?_
      refine o_i2l dX9_trick_25 rfl ?_
      refine o_lconst (v := 0) dX9_trick_26 rfl (by decide) ?_
      refine o_ldc2 dX9_trick_27 rfl kc_X9_89 ?_
      refine o_callS cs_X9_in ct_X9_71 (c_in _ worth 0 99) hq.2.2.2 (Nat.le_of_ble_eq_true rfl) dX9_trick_30 rfl rfl rfl (Nat.le_of_ble_eq_true rfl) (fun r3 mu3 h3 => ?_)
      obtain ⟨em, h3⟩ := h3
      rw [em]
      refine o_if_eq (tgt := 49) dX9_trick_33 (by decide) rfl (fun (c33 : r3 = 0) => ?_) (fun (c33 : ¬ r3 = 0) => ?_)
      · skip
        have b33 := (if10 h3).1 c33
        refine o_iconst (v := (-1)) dX9_trick_49 rfl (by decide) ?_
        exact o_iret hq dX9_trick_50 (Or.inl ⟨by simp [b9, b21, b33], rfl, rfl⟩)
      · skip
        have b33 := (if10 h3).2 c33
        refine o_iload dX9_trick_36 rfl (by rfl) ?_
        refine o_i2l dX9_trick_38 rfl ?_
        refine o_lconst (v := 1) dX9_trick_39 rfl (by decide) ?_
        refine o_ldc2 dX9_trick_40 rfl kc_X9_87 ?_
        refine o_callS cs_X9_in ct_X9_71 (c_in _ may 1 9) hq.2.2.2 (Nat.le_of_ble_eq_true rfl) dX9_trick_43 rfl rfl rfl (Nat.le_of_ble_eq_true rfl) (fun r4 mu4 h4 => ?_)
        obtain ⟨em, h4⟩ := h4
        rw [em]
        refine o_if_ne (tgt := 51) dX9_trick_46 (by decide) rfl (fun (c46 : ¬ r4 = 0) => ?_) (fun (c46 : r4 = 0) => ?_)
        · skip
          have b46 := (if10 h4).2 c46
          refine o_aload_n dX9_trick_51 rfl rfl (by rfl) ?_
          refine o_getI cl_X9_157 dX9_trick_52 rfl (by decide) (by rfl) (by rfl) ?_
          refine o_bipush (v := 8) dX9_trick_55 rfl (by decide) ?_
          refine o_icmp_ne (tgt := 63) dX9_trick_57 (by decide) rfl (fun (c57 : ¬ (mu 94 5) = 8) => ?_) (fun (c57 : (mu 94 5) = 8) => ?_)
          · skip
            have hlt : nt < 8 := by rw [ent] at c57; have : ¬ nt = 8 := fun e => c57 (by rw [e]; rfl); omega
            refine o_aload_n dX9_trick_63 rfl rfl (by rfl) ?_
            refine o_getC (q := 98) cl_X9_19 dX9_trick_64 rfl (by decide) (by rfl) (by rfl) ?_
            refine o_iconst (v := 4) dX9_trick_67 rfl (by decide) ?_
            refine o_aload_n dX9_trick_68 rfl rfl (by rfl) ?_
            refine o_getI cl_X9_157 dX9_trick_69 rfl (by decide) (by rfl) (by rfl) ?_
            refine o_imul dX9_trick_72 rfl ?_
            refine o_iload_n dX9_trick_73 rfl rfl (by rfl) ?_
            refine o_iast dX9_trick_74 rfl (by decide) (by rfl) (by rfl) (by rw [ent]; exact ixc (a := 4) (by omega) (by decide)) ?_
            refine o_aload_n dX9_trick_75 rfl rfl (by rfl) ?_
            refine o_getC (q := 98) cl_X9_19 dX9_trick_76 rfl (by decide) (by rfl) (by rfl) ?_
            refine o_iconst (v := 4) dX9_trick_79 rfl (by decide) ?_
            refine o_aload_n dX9_trick_80 rfl rfl (by rfl) ?_
            refine o_getI cl_X9_157 dX9_trick_81 rfl (by decide) (by rfl) (by rfl) ?_
            refine o_imul dX9_trick_84 rfl ?_
            refine o_iconst (v := 1) dX9_trick_85 rfl (by decide) ?_
            refine o_iadd dX9_trick_86 rfl ?_
            refine o_iload_n dX9_trick_87 rfl rfl (by rfl) ?_
            refine o_iast dX9_trick_88 rfl (by decide) (by rfl) (by rfl) (by first | (rw [upF_k (by decide), upF_k (by decide), upF_k (by decide), ent]; exact ixb (a := 4) (t := 1) (by omega) (by decide)) | (rw [upF_k (by decide), upF_k (by decide), ent]; exact ixb (a := 4) (t := 1) (by omega) (by decide)) | (rw [upF_k (by decide), ent]; exact ixb (a := 4) (t := 1) (by omega) (by decide)) | (rw [ent]; exact ixb (a := 4) (t := 1) (by omega) (by decide))) ?_
            refine o_aload_n dX9_trick_89 rfl rfl (by rfl) ?_
            refine o_getC (q := 98) cl_X9_19 dX9_trick_90 rfl (by decide) (by rfl) (by rfl) ?_
            refine o_iconst (v := 4) dX9_trick_93 rfl (by decide) ?_
            refine o_aload_n dX9_trick_94 rfl rfl (by rfl) ?_
            refine o_getI cl_X9_157 dX9_trick_95 rfl (by decide) (by rfl) (by rfl) ?_
            refine o_imul dX9_trick_98 rfl ?_
            refine o_iconst (v := 2) dX9_trick_99 rfl (by decide) ?_
            refine o_iadd dX9_trick_100 rfl ?_
            refine o_iload_n dX9_trick_101 rfl rfl (by rfl) ?_
            refine o_iast dX9_trick_102 rfl (by decide) (by rfl) (by rfl) (by first | (rw [upF_k (by decide), upF_k (by decide), upF_k (by decide), ent]; exact ixb (a := 4) (t := 2) (by omega) (by decide)) | (rw [upF_k (by decide), upF_k (by decide), ent]; exact ixb (a := 4) (t := 2) (by omega) (by decide)) | (rw [upF_k (by decide), ent]; exact ixb (a := 4) (t := 2) (by omega) (by decide)) | (rw [ent]; exact ixb (a := 4) (t := 2) (by omega) (by decide))) ?_
            refine o_aload_n dX9_trick_103 rfl rfl (by rfl) ?_
            refine o_getC (q := 98) cl_X9_19 dX9_trick_104 rfl (by decide) (by rfl) (by rfl) ?_
            refine o_iconst (v := 4) dX9_trick_107 rfl (by decide) ?_
            refine o_aload_n dX9_trick_108 rfl rfl (by rfl) ?_
            refine o_getI cl_X9_157 dX9_trick_109 rfl (by decide) (by rfl) (by rfl) ?_
            refine o_imul dX9_trick_112 rfl ?_
            refine o_iconst (v := 3) dX9_trick_113 rfl (by decide) ?_
            refine o_iadd dX9_trick_114 rfl ?_
            refine o_iload dX9_trick_115 rfl (by rfl) ?_
            refine o_iast dX9_trick_117 rfl (by decide) (by rfl) (by rfl) (by first | (rw [upF_k (by decide), upF_k (by decide), upF_k (by decide), ent]; exact ixb (a := 4) (t := 3) (by omega) (by decide)) | (rw [upF_k (by decide), upF_k (by decide), ent]; exact ixb (a := 4) (t := 3) (by omega) (by decide)) | (rw [upF_k (by decide), ent]; exact ixb (a := 4) (t := 3) (by omega) (by decide)) | (rw [ent]; exact ixb (a := 4) (t := 3) (by omega) (by decide))) ?_
            refine o_aload_n dX9_trick_118 rfl rfl (by rfl) ?_
            refine o_dup dX9_trick_119 rfl rfl ?_
            refine o_getI cl_X9_157 dX9_trick_120 rfl (by decide) (by rfl) (by rfl) ?_
            refine o_iconst (v := 1) dX9_trick_123 rfl (by decide) ?_
            refine o_iadd dX9_trick_124 rfl ?_
            refine o_put cl_X9_157 cp_X9_5 dX9_trick_125 rfl (by decide) (by rfl) (by rfl) fitI ?_
            refine o_aload_n dX9_trick_128 rfl rfl (by rfl) ?_
            refine o_getI cl_X9_157 dX9_trick_129 rfl (by decide) (by rfl) (by rfl) ?_
            refine o_iconst (v := 1) dX9_trick_132 rfl (by decide) ?_
            refine o_isub dX9_trick_133 rfl ?_
            exact o_iret hq dX9_trick_134 (Or.inr (Or.inr ⟨by simp [b9, b21, b33, b46], hlt, (by rw [upF_s, upF_k (by decide), upF_k (by decide), upF_k (by decide), upF_k (by decide), ent, nI_1, bk1]), trick_m ent hlt⟩))
          · skip
            have heq : nt = 8 := by rw [ent] at c57; exact (nI_eq (by omega) (by decide)).mp c57
            refine o_bipush (v := (-3)) dX9_trick_60 rfl (by decide) ?_
            exact o_iret hq dX9_trick_62 (Or.inr (Or.inl ⟨by simp [b9, b21, b33, b46], heq, rfl, rfl⟩))
        · skip
          have b46 := (if10 h4).1 c46
          refine o_iconst (v := (-1)) dX9_trick_49 rfl (by decide) ?_
          exact o_iret hq dX9_trick_50 (Or.inl ⟨by simp [b9, b21, b33, b46], rfl, rfl⟩)
set_option maxHeartbeats 4000000 in
set_option maxRecDepth 100000 in
theorem c_X9_told (mu : Mu) (nc : Nat) (hnc : nc ≤ 4) (enc : mu 94 1 = nI nc) (a what : Int32) : Con yX9_told cX9_told 3 (some .int) 2 [vC 94, vI a, vI what] mu (fun r mu2 => mu2 = mu ∧ ((hsB (nI nc) a && inB what 0 4) = true → ∃ i j, a = nI i ∧ i < nc ∧ what = nI j ∧ j < 5 ∧ r = mu 96 (5 * i + j)) ∧ ((hsB (nI nc) a && inB what 0 4) = false → r = -100001)) := by
  refine con_of (own := RX9) (by decide) rfl (Nat.le_of_ble_eq_true rfl) (fun X g hq => ?_)
  show WA X g RX9 3 cX9_told 0 [(0, vC 94), (1, vI a), (2, vI what)] [] mu
  refine o_aload_n dX9_told_0 rfl rfl (by rfl) ?_
  refine o_iload_n dX9_told_1 rfl rfl (by rfl) ?_
  refine o_callV cs_X9_isCup cv_X9_95 (c_X9_isCup _ nc (by omega) enc a) hq.2.2.2 (Nat.le_of_ble_eq_true rfl) dX9_told_2 rfl (by decide) (by rfl) (by rfl) (by rfl) rfl rfl (Nat.le_of_ble_eq_true rfl) (fun r1 mu1 h1 => ?_)
  obtain ⟨em, h1⟩ := h1
  rw [em]
  refine o_if_eq (tgt := 33) dX9_told_5 (by decide) rfl (fun (c5 : r1 = 0) => ?_) (fun (c5 : ¬ r1 = 0) => ?_)
  · skip
    have b5 := (if10 h1).1 c5
    refine o_ldc dX9_told_33 rfl kc_X9_99 ?_
    exact o_iret hq dX9_told_35 ⟨rfl, fun h9 => absurd h9 (by simp [b5]), fun _ => rfl⟩
  · skip
    have b5 := (if10 h1).2 c5
    refine o_iload_n dX9_told_8 rfl rfl (by rfl) ?_
    refine o_i2l dX9_told_9 rfl ?_
    refine o_lconst (v := 0) dX9_told_10 rfl (by decide) ?_
    refine o_ldc2 dX9_told_11 rfl kc_X9_81 ?_
    refine o_callS cs_X9_in ct_X9_71 (c_in _ what 0 4) hq.2.2.2 (Nat.le_of_ble_eq_true rfl) dX9_told_14 rfl rfl rfl (Nat.le_of_ble_eq_true rfl) (fun r2 mu2 h2 => ?_)
    obtain ⟨em, h2⟩ := h2
    rw [em]
    refine o_if_eq (tgt := 33) dX9_told_17 (by decide) rfl (fun (c17 : r2 = 0) => ?_) (fun (c17 : ¬ r2 = 0) => ?_)
    · skip
      have b17 := (if10 h2).1 c17
      refine o_ldc dX9_told_33 rfl kc_X9_99 ?_
      exact o_iret hq dX9_told_35 ⟨rfl, fun h9 => absurd h9 (by simp [b5, b17]), fun _ => rfl⟩
    · skip
      have b17 := (if10 h2).2 c17
      obtain ⟨i, ei, hi⟩ := hsB_nI (by omega) b5
      obtain ⟨j, ej, -, hj⟩ := inB_nI (l := 0) (m := 4) (by decide) (by decide) b17
      refine o_aload_n dX9_told_20 rfl rfl (by rfl) ?_
      refine o_getC (q := 96) cl_X9_13 dX9_told_21 rfl (by decide) (by rfl) (by rfl) ?_
      refine o_iconst (v := 5) dX9_told_24 rfl (by decide) ?_
      refine o_iload_n dX9_told_25 rfl rfl (by rfl) ?_
      refine o_imul dX9_told_26 rfl ?_
      refine o_iload_n dX9_told_27 rfl rfl (by rfl) ?_
      refine o_iadd dX9_told_28 rfl ?_
      refine o_iald dX9_told_29 rfl (by decide) (by rfl) (by rfl) (by rw [ei, ej]; exact ixb (a := 5) (by omega) (by decide)) ?_
      refine o_goto (tgt := 35) dX9_told_30 (by decide) ?_
      exact o_iret hq dX9_told_35 ⟨rfl, fun h9 => ⟨i, j, ei, hi, ej, by omega, by rw [ei, ej, ← ixl (a := 5) (by omega)]; rfl⟩, fun h9 => absurd h9 (by simp [b5, b17])⟩
set_option maxHeartbeats 4000000 in
set_option maxRecDepth 100000 in
theorem c_X9_pull (mu : Mu) (np : Nat) (hnp : np ≤ 6) (enp : mu 94 3 = nI np) (a what : Int32) : Con yX9_pull cX9_pull 3 (some .int) 1 [vC 94, vI a, vI what] mu (fun r mu2 => mu2 = mu ∧ ((hsB (nI np) a && inB what 0 2) = true → ∃ i j, a = nI i ∧ i < np ∧ what = nI j ∧ j < 3 ∧ r = mu 97 (3 * i + j)) ∧ ((hsB (nI np) a && inB what 0 2) = false → r = -100001)) := by
  refine con_of (own := RX9) (by decide) rfl (Nat.le_of_ble_eq_true rfl) (fun X g hq => ?_)
  show WA X g RX9 3 cX9_pull 0 [(0, vC 94), (1, vI a), (2, vI what)] [] mu
  refine o_iload_n dX9_pull_0 rfl rfl (by rfl) ?_
  refine o_i2l dX9_pull_1 rfl ?_
  refine o_lconst (v := 0) dX9_pull_2 rfl (by decide) ?_
  refine o_aload_n dX9_pull_3 rfl rfl (by rfl) ?_
  refine o_getI cl_X9_100 dX9_pull_4 rfl (by decide) (by rfl) (by rfl) ?_
  refine o_iconst (v := 1) dX9_pull_7 rfl (by decide) ?_
  refine o_isub dX9_pull_8 rfl ?_
  refine o_i2l dX9_pull_9 rfl ?_
  refine o_callS cs_X9_in ct_X9_71 (c_in _ a 0 ((mu 94 3) - 1)) hq.2.2.2 (Nat.le_of_ble_eq_true rfl) dX9_pull_10 rfl rfl rfl (Nat.le_of_ble_eq_true rfl) (fun r1 mu1 h1 => ?_)
  obtain ⟨em, h1⟩ := h1
  rw [em]
  refine o_if_eq (tgt := 41) dX9_pull_13 (by decide) rfl (fun (c13 : r1 = 0) => ?_) (fun (c13 : ¬ r1 = 0) => ?_)
  · skip
    have b13 := (if10 h1).1 c13
    rw [enp, inB_hs (by omega)] at b13
    refine o_ldc dX9_pull_41 rfl kc_X9_99 ?_
    exact o_iret hq dX9_pull_43 ⟨rfl, fun h9 => absurd h9 (by simp [b13]), fun _ => rfl⟩
  · skip
    have b13 := (if10 h1).2 c13
    rw [enp, inB_hs (by omega)] at b13
    refine o_iload_n dX9_pull_16 rfl rfl (by rfl) ?_
    refine o_i2l dX9_pull_17 rfl ?_
    refine o_lconst (v := 0) dX9_pull_18 rfl (by decide) ?_
    refine o_ldc2 dX9_pull_19 rfl kc_X9_75 ?_
    refine o_callS cs_X9_in ct_X9_71 (c_in _ what 0 2) hq.2.2.2 (Nat.le_of_ble_eq_true rfl) dX9_pull_22 rfl rfl rfl (Nat.le_of_ble_eq_true rfl) (fun r2 mu2 h2 => ?_)
    obtain ⟨em, h2⟩ := h2
    rw [em]
    refine o_if_eq (tgt := 41) dX9_pull_25 (by decide) rfl (fun (c25 : r2 = 0) => ?_) (fun (c25 : ¬ r2 = 0) => ?_)
    · skip
      have b25 := (if10 h2).1 c25
      refine o_ldc dX9_pull_41 rfl kc_X9_99 ?_
      exact o_iret hq dX9_pull_43 ⟨rfl, fun h9 => absurd h9 (by simp [b13, b25]), fun _ => rfl⟩
    · skip
      have b25 := (if10 h2).2 c25
      obtain ⟨i, ei, hi⟩ := hsB_nI (by omega) b13
      obtain ⟨j, ej, -, hj⟩ := inB_nI (l := 0) (m := 2) (by decide) (by decide) b25
      refine o_aload_n dX9_pull_28 rfl rfl (by rfl) ?_
      refine o_getC (q := 97) cl_X9_16 dX9_pull_29 rfl (by decide) (by rfl) (by rfl) ?_
      refine o_iconst (v := 3) dX9_pull_32 rfl (by decide) ?_
      refine o_iload_n dX9_pull_33 rfl rfl (by rfl) ?_
      refine o_imul dX9_pull_34 rfl ?_
      refine o_iload_n dX9_pull_35 rfl rfl (by rfl) ?_
      refine o_iadd dX9_pull_36 rfl ?_
      refine o_iald dX9_pull_37 rfl (by decide) (by rfl) (by rfl) (by rw [ei, ej]; exact ixb (a := 3) (by omega) (by decide)) ?_
      refine o_goto (tgt := 43) dX9_pull_38 (by decide) ?_
      exact o_iret hq dX9_pull_43 ⟨rfl, fun h9 => ⟨i, j, ei, hi, ej, by omega, by rw [ei, ej, ← ixl (a := 3) (by omega)]; rfl⟩, fun h9 => absurd h9 (by simp [b13, b25])⟩
set_option maxHeartbeats 4000000 in
set_option maxRecDepth 100000 in
theorem c_X9_still (mu : Mu) : Con yX9_still cX9_still 2 (some .int) 0 [vC 94] mu (fun r mu2 => mu2 = upF mu 94 3 0 ∧ r = mu 94 3) := by
  refine con_of (own := RX9) (by decide) rfl (Nat.le_of_ble_eq_true rfl) (fun X g hq => ?_)
  show WA X g RX9 2 cX9_still 0 [(0, vC 94)] [] mu
  refine o_aload_n dX9_still_0 rfl rfl (by rfl) ?_
  refine o_getI cl_X9_100 dX9_still_1 rfl (by decide) (by rfl) (by rfl) ?_
  refine o_istore_n (L' := [(0, vC 94), (1, vI (mu 94 3))]) dX9_still_4 rfl rfl (by decide) (by rfl) (by rfl) ?_
  refine o_aload_n dX9_still_5 rfl rfl (by rfl) ?_
  refine o_iconst (v := 0) dX9_still_6 rfl (by decide) ?_
  refine o_put cl_X9_100 cp_X9_3 dX9_still_7 rfl (by decide) (by rfl) (by rfl) fitI ?_
  refine o_iload_n dX9_still_10 rfl rfl (by rfl) ?_
  exact o_iret hq dX9_still_11 ⟨rfl, rfl⟩
set_option maxHeartbeats 4000000 in
set_option maxRecDepth 100000 in
theorem c_X9_clear (mu : Mu) : Con yX9_clear cX9_clear 2 (some .int) 0 [vC 94] mu (fun r mu2 => mu2 = upF mu 94 5 0 ∧ r = mu 94 5) := by
  refine con_of (own := RX9) (by decide) rfl (Nat.le_of_ble_eq_true rfl) (fun X g hq => ?_)
  show WA X g RX9 2 cX9_clear 0 [(0, vC 94)] [] mu
  refine o_aload_n dX9_clear_0 rfl rfl (by rfl) ?_
  refine o_getI cl_X9_157 dX9_clear_1 rfl (by decide) (by rfl) (by rfl) ?_
  refine o_istore_n (L' := [(0, vC 94), (1, vI (mu 94 5))]) dX9_clear_4 rfl rfl (by decide) (by rfl) (by rfl) ?_
  refine o_aload_n dX9_clear_5 rfl rfl (by rfl) ?_
  refine o_iconst (v := 0) dX9_clear_6 rfl (by decide) ?_
  refine o_put cl_X9_157 cp_X9_5 dX9_clear_7 rfl (by decide) (by rfl) (by rfl) fitI ?_
  refine o_iload_n dX9_clear_10 rfl rfl (by rfl) ?_
  exact o_iret hq dX9_clear_11 ⟨rfl, rfl⟩
def stR (mu : Mu) : Nat → Int32
  | 0 => 0
  | i + 1 => stR mu i + mu 97 (3 * i)
set_option maxHeartbeats 4000000 in
set_option maxRecDepth 100000 in
theorem c_X9_count (mu : Mu) (np : Nat) (hnp : np ≤ 6) (enp : mu 94 3 = nI np) (what : Int32) : Con yX9_count cX9_count 4 (some .int) 0 [vC 94, vI what] mu (fun r mu2 => mu2 = mu ∧ r = if what = 0 then mu 94 1 else if what = 1 then mu 94 3 else if what = 2 then stR mu np else if what = 3 then mu 94 5 else -1) := by
  refine con_of (own := RX9) (by decide) rfl (Nat.le_of_ble_eq_true rfl) (fun X g hq => ?_)
  show WA X g RX9 4 cX9_count 0 [(0, vC 94), (1, vI what)] [] mu
  refine o_iconst (v := 0) dX9_count_0 rfl (by decide) ?_
  refine o_istore_n (L' := [(0, vC 94), (1, vI what), (2, vI 0)]) dX9_count_1 rfl rfl (by decide) (by rfl) (by rfl) ?_
  refine o_iconst (v := 0) dX9_count_2 rfl (by decide) ?_
  refine o_istore_n (L' := [(0, vC 94), (1, vI what), (2, vI 0), (3, vI 0)]) dX9_count_3 rfl rfl (by decide) (by rfl) (by rfl) ?_
  have LP4 : ∀ (nLP4 : Nat) (i : Nat) , (i ≤ np) → (np < i + nLP4) → WA X g RX9 4 cX9_count 4 [(0, vC 94), (1, vI what), (2, vI (stR mu i)), (3, vI (nI i))] [] mu := by
    intro nLP4
    induction nLP4 with
    | zero =>
      intro i hi hm
      exact absurd hm (by omega)
    | succ nLP4 ihLP4 =>
      intro i hi hm
      refine o_iload_n dX9_count_4 rfl rfl (by rfl) ?_
      refine o_aload_n dX9_count_5 rfl rfl (by rfl) ?_
      refine o_getI cl_X9_100 dX9_count_6 rfl (by decide) (by rfl) (by rfl) ?_
      refine o_icmp_ge (tgt := 29) dX9_count_9 (by decide) rfl (fun (c9 : (mu 94 3) ≤ (nI i)) => ?_) (fun (c9 : ¬ (mu 94 3) ≤ (nI i)) => ?_)
      · skip
        rw [enp] at c9
        have hi2 := nI_dec2 c9 (by omega) (by omega)
        have e2 : i = np := by omega
        refine o_iload_n dX9_count_29 rfl rfl (by rfl) ?_
        refine o_if_ne (tgt := 40) dX9_count_30 (by decide) rfl (fun (c30 : ¬ what = 0) => ?_) (fun (c30 : what = 0) => ?_)
        · skip
          refine o_iload_n dX9_count_40 rfl rfl (by rfl) ?_
          refine o_iconst (v := 1) dX9_count_41 rfl (by decide) ?_
          refine o_icmp_ne (tgt := 52) dX9_count_42 (by decide) rfl (fun (c42 : ¬ what = 1) => ?_) (fun (c42 : what = 1) => ?_)
          · skip
            refine o_iload_n dX9_count_52 rfl rfl (by rfl) ?_
            refine o_iconst (v := 2) dX9_count_53 rfl (by decide) ?_
            refine o_icmp_ne (tgt := 61) dX9_count_54 (by decide) rfl (fun (c54 : ¬ what = 2) => ?_) (fun (c54 : what = 2) => ?_)
            · skip
              refine o_iload_n dX9_count_61 rfl rfl (by rfl) ?_
              refine o_iconst (v := 3) dX9_count_62 rfl (by decide) ?_
              refine o_icmp_ne (tgt := 73) dX9_count_63 (by decide) rfl (fun (c63 : ¬ what = 3) => ?_) (fun (c63 : what = 3) => ?_)
              · skip
                refine o_iconst (v := (-1)) dX9_count_73 rfl (by decide) ?_
                exact o_iret hq dX9_count_74 ⟨rfl, by rw [if_neg c30, if_neg c42, if_neg c54, if_neg c63]⟩
              · skip
                refine o_aload_n dX9_count_66 rfl rfl (by rfl) ?_
                refine o_getI cl_X9_157 dX9_count_67 rfl (by decide) (by rfl) (by rfl) ?_
                refine o_goto (tgt := 74) dX9_count_70 (by decide) ?_
                exact o_iret hq dX9_count_74 ⟨rfl, by rw [if_neg c30, if_neg c42, if_neg c54, if_pos c63]⟩
            · skip
              refine o_iload_n dX9_count_57 rfl rfl (by rfl) ?_
              refine o_goto (tgt := 74) dX9_count_58 (by decide) ?_
              exact o_iret hq dX9_count_74 ⟨rfl, by rw [if_neg c30, if_neg c42, if_pos c54, e2]⟩
          · skip
            refine o_aload_n dX9_count_45 rfl rfl (by rfl) ?_
            refine o_getI cl_X9_100 dX9_count_46 rfl (by decide) (by rfl) (by rfl) ?_
            refine o_goto (tgt := 74) dX9_count_49 (by decide) ?_
            exact o_iret hq dX9_count_74 ⟨rfl, by rw [if_neg c30, if_pos c42]⟩
        · skip
          refine o_aload_n dX9_count_33 rfl rfl (by rfl) ?_
          refine o_getI cl_X9_68 dX9_count_34 rfl (by decide) (by rfl) (by rfl) ?_
          refine o_goto (tgt := 74) dX9_count_37 (by decide) ?_
          exact o_iret hq dX9_count_74 ⟨rfl, by rw [if_pos c30]⟩
      · skip
        rw [enp] at c9
        have hi2 := nI_dec c9 (by omega) (by omega)
        refine o_iload_n dX9_count_12 rfl rfl (by rfl) ?_
        refine o_aload_n dX9_count_13 rfl rfl (by rfl) ?_
        refine o_getC (q := 97) cl_X9_16 dX9_count_14 rfl (by decide) (by rfl) (by rfl) ?_
        refine o_iconst (v := 3) dX9_count_17 rfl (by decide) ?_
        refine o_iload_n dX9_count_18 rfl rfl (by rfl) ?_
        refine o_imul dX9_count_19 rfl ?_
        refine o_iald dX9_count_20 rfl (by decide) (by rfl) (by rfl) (ixc (a := 3) (by omega) (by decide)) ?_
        refine o_iadd dX9_count_21 rfl ?_
        refine o_istore_n (L' := [(0, vC 94), (1, vI what), (2, vI ((stR mu i) + (mu 97 (3 * nI i).toNatClampNeg))), (3, vI (nI i))]) dX9_count_22 rfl rfl (by decide) (by rfl) (by rfl) ?_
        refine o_iinc (v := nI (i + 1)) (L' := [(0, vC 94), (1, vI what), (2, vI ((stR mu i) + (mu 97 (3 * nI i).toNatClampNeg))), (3, vI (nI (i + 1)))]) dX9_count_23 rfl (by rfl) (by exact nI_1 i) (by decide) (by rfl) (by rfl) ?_
        refine o_goto (tgt := 4) dX9_count_26 (by decide) ?_
        rw [show (3 * nI i).toNatClampNeg = 3 * i from ixm (a := 3) (by omega)]
        exact ihLP4 (i + 1) (by omega) (by omega)
  exact LP4 (np + 1) 0 (by omega) (by omega)
set_option maxHeartbeats 4000000 in
set_option maxRecDepth 100000 in
theorem c_X9_row (mu : Mu) (nt : Nat) (hnt : nt ≤ 8) (ent : mu 94 5 = nI nt) (tr n : Int32) : Con yX9_row cX9_row 5 (some .int) 1 [vC 94, vI tr, vI n] mu (fun r mu2 => mu2 = mu ∧ (((hsB (nI nt) tr && inB n 1 99) = false ∧ r = -1) ∨ ((hsB (nI nt) tr && inB n 1 99) = true ∧ ∃ i N, tr = nI i ∧ i < nt ∧ n = nI N ∧ N ≤ 99 ∧ r = rowS (mu 98 (4 * i)) N))) := by
  refine con_of (own := RX9) (by decide) rfl (Nat.le_of_ble_eq_true rfl) (fun X g hq => ?_)
  show WA X g RX9 5 cX9_row 0 [(0, vC 94), (1, vI tr), (2, vI n)] [] mu
  refine o_iload_n dX9_row_0 rfl rfl (by rfl) ?_
  refine o_i2l dX9_row_1 rfl ?_
  refine o_lconst (v := 0) dX9_row_2 rfl (by decide) ?_
  refine o_aload_n dX9_row_3 rfl rfl (by rfl) ?_
  refine o_getI cl_X9_157 dX9_row_4 rfl (by decide) (by rfl) (by rfl) ?_
  refine o_iconst (v := 1) dX9_row_7 rfl (by decide) ?_
  refine o_isub dX9_row_8 rfl ?_
  refine o_i2l dX9_row_9 rfl ?_
  refine o_callS cs_X9_in ct_X9_71 (c_in _ tr 0 ((mu 94 5) - 1)) hq.2.2.2 (Nat.le_of_ble_eq_true rfl) dX9_row_10 rfl rfl rfl (Nat.le_of_ble_eq_true rfl) (fun r1 mu1 h1 => ?_)
  obtain ⟨em, h1⟩ := h1
  rw [em]
  refine o_if_eq (tgt := 28) dX9_row_13 (by decide) rfl (fun (c13 : r1 = 0) => ?_) (fun (c13 : ¬ r1 = 0) => ?_)
  · skip
    have b13 := (if10 h1).1 c13
    rw [ent, inB_hs (by omega)] at b13
    refine o_iconst (v := (-1)) dX9_row_28 rfl (by decide) ?_
    exact o_iret hq dX9_row_29 ⟨rfl, Or.inl ⟨by simp [b13], rfl⟩⟩
  · skip
    have b13 := (if10 h1).2 c13
    rw [ent, inB_hs (by omega)] at b13
    refine o_iload_n dX9_row_16 rfl rfl (by rfl) ?_
    refine o_i2l dX9_row_17 rfl ?_
    refine o_lconst (v := 1) dX9_row_18 rfl (by decide) ?_
    refine o_ldc2 dX9_row_19 rfl kc_X9_89 ?_
    refine o_callS cs_X9_in ct_X9_71 (c_in _ n 1 99) hq.2.2.2 (Nat.le_of_ble_eq_true rfl) dX9_row_22 rfl rfl rfl (Nat.le_of_ble_eq_true rfl) (fun r2 mu2 h2 => ?_)
    obtain ⟨em, h2⟩ := h2
    rw [em]
    refine o_if_ne (tgt := 30) dX9_row_25 (by decide) rfl (fun (c25 : ¬ r2 = 0) => ?_) (fun (c25 : r2 = 0) => ?_)
    · skip
      have b25 := (if10 h2).2 c25
      obtain ⟨i, ei, hi⟩ := hsB_nI (by omega) b13
      obtain ⟨N, eN, -, hN⟩ := inB_nI (l := 1) (m := 99) (by decide) (by decide) b25
      refine o_sipush (v := 1000) dX9_row_30 rfl (by decide) ?_
      refine o_istore_n (L' := [(0, vC 94), (1, vI tr), (2, vI n), (3, vI 1000)]) dX9_row_33 rfl rfl (by decide) (by rfl) (by rfl) ?_
      refine o_iconst (v := 0) dX9_row_34 rfl (by decide) ?_
      refine o_istore (L' := [(0, vC 94), (1, vI tr), (2, vI n), (3, vI 1000), (4, vI 0)]) dX9_row_35 rfl (by decide) (by rfl) (by rfl) ?_
      have LP37 : ∀ (nLP37 : Nat) (k : Nat) , (k ≤ N) → (N < k + nLP37) → WA X g RX9 5 cX9_row 37 [(0, vC 94), (1, vI tr), (2, vI n), (3, vI (rowS (mu 98 (4 * i)) k)), (4, vI (nI k))] [] mu := by
        intro nLP37
        induction nLP37 with
        | zero =>
          intro k hk hm
          exact absurd hm (by omega)
        | succ nLP37 ihLP37 =>
          intro k hk hm
          refine o_iload dX9_row_37 rfl (by rfl) ?_
          refine o_iload_n dX9_row_39 rfl rfl (by rfl) ?_
          refine o_icmp_ge (tgt := 63) dX9_row_40 (by decide) rfl (fun (c40 : n ≤ (nI k)) => ?_) (fun (c40 : ¬ n ≤ (nI k)) => ?_)
          · skip
            rw [eN] at c40
            have hk2 := nI_dec2 c40 (by omega) (by omega)
            have e2 : k = N := by omega
            refine o_iload_n dX9_row_63 rfl rfl (by rfl) ?_
            exact o_iret hq dX9_row_64 ⟨rfl, Or.inr ⟨by simp [b13, b25], i, N, ei, hi, eN, hN, by rw [e2]⟩⟩
          · skip
            rw [eN] at c40
            have hk2 := nI_dec c40 (by omega) (by omega)
            refine o_iload_n dX9_row_43 rfl rfl (by rfl) ?_
            refine o_aload_n dX9_row_44 rfl rfl (by rfl) ?_
            refine o_getC (q := 98) cl_X9_19 dX9_row_45 rfl (by decide) (by rfl) (by rfl) ?_
            refine o_iconst (v := 4) dX9_row_48 rfl (by decide) ?_
            refine o_iload_n dX9_row_49 rfl rfl (by rfl) ?_
            refine o_imul dX9_row_50 rfl ?_
            refine o_iald dX9_row_51 rfl (by decide) (by rfl) (by rfl) (by rw [ei]; exact ixc (a := 4) (by omega) (by decide)) ?_
            refine o_imul dX9_row_52 rfl ?_
            refine o_bipush (v := 16) dX9_row_53 rfl (by decide) ?_
            refine o_idiv dX9_row_55 rfl (by decide) ?_
            refine o_istore_n (L' := [(0, vC 94), (1, vI tr), (2, vI n), (3, vI (((rowS (mu 98 (4 * i)) k) * (mu 98 (4 * tr).toNatClampNeg)) / 16)), (4, vI (nI k))]) dX9_row_56 rfl rfl (by decide) (by rfl) (by rfl) ?_
            refine o_iinc (v := nI (k + 1)) (L' := [(0, vC 94), (1, vI tr), (2, vI n), (3, vI (((rowS (mu 98 (4 * i)) k) * (mu 98 (4 * tr).toNatClampNeg)) / 16)), (4, vI (nI (k + 1)))]) dX9_row_57 rfl (by rfl) (by exact nI_1 k) (by decide) (by rfl) (by rfl) ?_
            refine o_goto (tgt := 37) dX9_row_60 (by decide) ?_
            rw [show (4 * tr).toNatClampNeg = 4 * i by rw [ei]; exact ixm (a := 4) (by omega)]
            exact ihLP37 (k + 1) (by omega) (by omega)
      exact LP37 (N + 1) 0 (by omega) (by omega)
    · skip
      have b25 := (if10 h2).1 c25
      refine o_iconst (v := (-1)) dX9_row_28 rfl (by decide) ?_
      exact o_iret hq dX9_row_29 ⟨rfl, Or.inl ⟨by simp [b13, b25], rfl⟩⟩
