/-! ===== the reference: most ===== -/
def tmZ (S G M : Nat → Nat) (z i left : Nat) : Nat := dwn (dwP (S i) (G i) left (dpB S G M z (z - i) left) (dpB S G M z (z - (i + 1)))) (M i)
def tmR (S G M : Nat → Nat) (z k : Nat) : Nat → Nat × Nat
  | 0 => (0, k)
  | i + 1 => (tmZ S G M z i (tmR S G M z k i).2, (tmR S G M z k i).2 - tmZ S G M z i (tmR S G M z k i).2 * S i)
theorem tmR_S (mu : Mu) (z k : Nat) : ∀ i, tmS mu z k i = tmR (tS mu) (tG mu) (tM mu) z k i
  | 0 => rfl
  | i + 1 => by
    show (tmN mu z i (tmS mu z k i).2, (tmS mu z k i).2 - tmN mu z i (tmS mu z k i).2 * tS mu i) = (tmZ (tS mu) (tG mu) (tM mu) z i (tmR (tS mu) (tG mu) (tM mu) z k i).2, (tmR (tS mu) (tG mu) (tM mu) z k i).2 - tmZ (tS mu) (tG mu) (tM mu) z i (tmR (tS mu) (tG mu) (tM mu) z k i).2 * tS mu i)
    rw [tmR_S mu z k i]
    rfl
theorem tmR_le (S G M : Nat → Nat) (z k : Nat) : ∀ i, (tmR S G M z k i).2 ≤ k
  | 0 => Nat.le_refl _
  | i + 1 => by
    have := tmR_le S G M z k i
    show (tmR S G M z k i).2 - _ ≤ k
    omega
def TKR (mu : Mu) (S G M : Nat → Nat) (i : Nat) : Prop := mu 98 (4 * i) * mu 98 (4 * i + 2) = nI (G i) ∧ G i ≤ 1584 ∧ mu 98 (4 * i + 1) = nI (S i) ∧ 1 ≤ S i ∧ S i ≤ 60 ∧ mu 98 (4 * i + 3) = nI (M i) ∧ 1 ≤ M i ∧ M i ≤ 9
theorem TKR.g {mu m : Mu} {S G M : Nat → Nat} {i : Nat} (h : TKR mu S G M i) (hm : m 98 = mu 98) (hi : i < 8) : m 98 (4 * nI i).toNatClampNeg * m 98 (4 * nI i + 2).toNatClampNeg = nI (G i) := by
  rw [hm, show (4 * nI i).toNatClampNeg = 4 * i from ixm (a := 4) (by omega), show (4 * nI i + 2).toNatClampNeg = 4 * i + 2 from ixl (a := 4) (t := 2) (by omega)]
  exact h.1
theorem TKR.s {mu m : Mu} {S G M : Nat → Nat} {i : Nat} (h : TKR mu S G M i) (hm : m 98 = mu 98) (hi : i < 8) : m 98 (4 * nI i + 1).toNatClampNeg = nI (S i) := by
  rw [hm, show (4 * nI i + 1).toNatClampNeg = 4 * i + 1 from ixl (a := 4) (t := 1) (by omega)]
  exact h.2.2.1
theorem TKR.m {mu m : Mu} {S G M : Nat → Nat} {i : Nat} (h : TKR mu S G M i) (hm : m 98 = mu 98) (hi : i < 8) : m 98 (4 * nI i + 3).toNatClampNeg = nI (M i) := by
  rw [hm, show (4 * nI i + 3).toNatClampNeg = 4 * i + 3 from ixl (a := 4) (t := 3) (by omega)]
  exact h.2.2.2.2.2.1
theorem ix0R {t k : Nat} : (181 : Int32) * nI t + nI k = nI (181 * t + k) := by
  rw [show (181 : Int32) = nI 181 from rfl, pk_mul, nI_add]
theorem ix1R {t k n s : Nat} (h : n * s ≤ k) : (181 : Int32) * nI t + 181 + nI k - nI n * nI s = nI (181 * (t + 1) + (k - n * s)) := by
  rw [show (181 : Int32) = nI 181 from rfl, pk_mul, pk_mul, nI_add, nI_add, pk_sub (by omega)]
  congr 1
  omega
theorem dpM_s1 {s g k n : Nat} {B : Nat → Nat} (h : n * s ≤ k) (h2 : n * g + B (k - n * s) ≤ dpM s g k B n) : dpM s g k B n = dpM s g k B (n + 1) := by
  show _ = if dpM s g k B n < dpV s g k B n then dpV s g k B n else dpM s g k B n
  rw [if_neg (by unfold dpV; rw [if_pos h]; omega)]
theorem dpM_s2 {s g k n : Nat} {B : Nat → Nat} (h : n * s ≤ k) (h2 : ¬ n * g + B (k - n * s) ≤ dpM s g k B n) : n * g + B (k - n * s) = dpM s g k B (n + 1) := by
  show _ = if dpM s g k B n < dpV s g k B n then dpV s g k B n else dpM s g k B n
  have e : dpV s g k B n = n * g + B (k - n * s) := by unfold dpV; rw [if_pos h]
  rw [e, if_pos (by omega)]
theorem dpM_stop {s g k n : Nat} {B : Nat → Nat} (h : k < n * s) : ∀ d, dpM s g k B (n + d) = dpM s g k B n
  | 0 => rfl
  | d + 1 => by
    have ih := dpM_stop (g := g) (B := B) h d
    show (if dpM s g k B (n + d) < dpV s g k B (n + d) then dpV s g k B (n + d) else dpM s g k B (n + d)) = _
    have e : dpV s g k B (n + d) = 0 := by
      unfold dpV
      rw [if_neg]
      have := Nat.mul_le_mul_right s (show n ≤ n + d by omega)
      omega
    rw [e, if_neg (Nat.not_lt_zero _)]
    exact ih
theorem dpM_up {s g k : Nat} {B : Nat → Nat} : ∀ {m n : Nat}, n < m → n * s ≤ k → n * g + B (k - n * s) ≤ dpM s g k B m
  | m + 1, n, h, hk => by
    show _ ≤ if dpM s g k B m < dpV s g k B m then dpV s g k B m else dpM s g k B m
    by_cases e : n = m
    · subst e
      have e : dpV s g k B n = n * g + B (k - n * s) := by unfold dpV; rw [if_pos hk]
      rw [e]
      split <;> omega
    · have := dpM_up (s := s) (g := g) (k := k) (B := B) (m := m) (n := n) (by omega) hk
      split <;> omega
theorem dpM_at {s g k : Nat} {B : Nat → Nat} : ∀ m, ∃ n, n ≤ m ∧ n * s ≤ k ∧ n * g + B (k - n * s) = dpM s g k B (m + 1)
  | 0 => ⟨0, Nat.le_refl _, by omega, by
      show _ = if 0 < dpV s g k B 0 then dpV s g k B 0 else 0
      have e : dpV s g k B 0 = 0 * g + B (k - 0 * s) := by unfold dpV; rw [if_pos (by omega)]
      rw [e]
      split <;> omega⟩
  | m + 1 => by
    obtain ⟨n, h1, h2, h3⟩ := dpM_at (s := s) (g := g) (k := k) (B := B) m
    by_cases q : dpM s g k B (m + 1) < dpV s g k B (m + 1)
    · have e : dpM s g k B (m + 1 + 1) = dpV s g k B (m + 1) := by
        show (if dpM s g k B (m + 1) < dpV s g k B (m + 1) then dpV s g k B (m + 1) else dpM s g k B (m + 1)) = _
        rw [if_pos q]
      by_cases q2 : (m + 1) * s ≤ k
      · exact ⟨m + 1, Nat.le_refl _, q2, by rw [e]; unfold dpV; rw [if_pos q2]⟩
      · unfold dpV at q
        rw [if_neg q2] at q
        omega
    · have e : dpM s g k B (m + 1 + 1) = dpM s g k B (m + 1) := by
        show (if dpM s g k B (m + 1) < dpV s g k B (m + 1) then dpV s g k B (m + 1) else dpM s g k B (m + 1)) = _
        rw [if_neg q]
      exact ⟨n, by omega, h2, by rw [e]; exact h3⟩
/-- the rows of the sums from t on -/
def SMN (S G M : Nat → Nat) (mu m : Mu) (z t : Nat) : Prop := (∀ q, q ≠ 107 → m q = mu q) ∧ ∀ u, t ≤ u → u ≤ z → ∀ j, j ≤ 180 → m 107 (181 * u + j) = nI (dpB S G M z (z - u) j)
def SMQ (S G M : Nat → Nat) (mu m : Mu) (z t j : Nat) : Prop := (∀ q, q ≠ 107 → m q = mu q) ∧ (∀ u, t + 1 ≤ u → u ≤ z → ∀ i, i ≤ 180 → m 107 (181 * u + i) = nI (dpB S G M z (z - u) i)) ∧ ∀ i, i < j → m 107 (181 * t + i) = nI (dpB S G M z (z - t) i)
theorem SMN.top {S G M : Nat → Nat} {mu m : Mu} {z t : Nat} (h : SMN S G M mu m z (t + 1)) : SMQ S G M mu m z t 0 := ⟨h.1, h.2, fun i hi => by omega⟩
theorem SMQ.down {S G M : Nat → Nat} {mu m : Mu} {z t : Nat} (h : SMQ S G M mu m z t 181) : SMN S G M mu m z t := ⟨h.1, fun u h1 h2 j hj => by
  by_cases e : u = t
  · subst e
    exact h.2.2 j (by omega)
  · exact h.2.1 u (by omega) h2 j hj⟩
theorem SMQ.step {S G M : Nat → Nat} {mu m : Mu} {z t j ix : Nat} {r : Int32} (h : SMQ S G M mu m z t j) (ht : t < z) (hj : j ≤ 180) (hi : ix = 181 * t + j) (hr : r = nI (dpM (S t) (G t) j (dpB S G M z (z - (t + 1))) (M t + 1))) : SMQ S G M mu (upF m 107 ix r) z t (j + 1) := by
  obtain ⟨a1, a2, a3⟩ := h
  subst hi
  refine ⟨fun q hq => by rw [upF_k hq]; exact a1 q hq, fun u h1 h2 i hi => by rw [upF_i (by omega)]; exact a2 u h1 h2 i hi, fun i hi => ?_⟩
  by_cases e : i = j
  · subst e
    rw [upF_s, hr]
    congr 1
    rw [show z - t = (z - (t + 1)) + 1 by omega]
    show _ = dpM (S (z - 1 - (z - (t + 1)))) (G (z - 1 - (z - (t + 1)))) i (dpB S G M z (z - (t + 1))) (M (z - 1 - (z - (t + 1))) + 1)
    rw [show z - 1 - (z - (t + 1)) = t by omega]
  · rw [upF_i (by omega)]
    exact a3 i (by omega)
theorem SMN.init {S G M : Nat → Nat} {mu m : Mu} {z : Nat} (hF : ∀ q, q ≠ 107 → m q = mu q) (hA : ∀ j, j < 181 → m 107 (181 * z + j) = 0) : SMN S G M mu m z z := ⟨hF, fun u h1 h2 j hj => by
  have e : u = z := by omega
  subst e
  rw [hA j (by omega), Nat.sub_self]
  rfl⟩
theorem in_tr {tr : Int32} {z : Nat} (hz : z ≤ 8) (h : inB tr (-1) (nI z - 1) = true) : tr = -1 ∨ ∃ T, tr = nI T ∧ T < z := by
  have h2 := of_decide_eq_true h
  have e1 : (nI z - 1).toInt = (z : Int) - 1 := by
    have h1 : (1 : Int32).toInt = 1 := rfl
    rw [i_sub (by rw [nI_toInt (by omega), h1]; omega) (by rw [nI_toInt (by omega), h1]; omega), nI_toInt (by omega), h1]
  rw [i_lt, i_lt, e1] at h2
  have e2 : (-1 : Int32).toInt = -1 := rfl
  rw [e2] at h2
  by_cases q : tr = -1
  · exact Or.inl q
  · right
    have hne : tr.toInt ≠ -1 := fun h => q (by rw [i_eq, h]; rfl)
    refine ⟨tr.toInt.toNat, ?_, by omega⟩
    rw [i_eq, nI_toInt (by omega)]
    omega
set_option maxHeartbeats 4000000 in
set_option maxRecDepth 100000 in
theorem c_X9_most (mu : Mu) (S G M : Nat → Nat) (z : Nat) (ez : mu 94 5 = nI z) (hz : z ≤ 8) (hR : ∀ i, i < z → TKR mu S G M i) (time tr : Int32) : Con yX9_most cX9_most 9 (some .int) 1 [vC 94, vI time, vI tr] mu (fun r mu2 => ((inB time 0 180 && inB tr (-1) (nI z - 1)) = false ∧ r = -1 ∧ mu2 = mu) ∨ ((inB time 0 180 && inB tr (-1) (nI z - 1)) = true ∧ (∀ q, q ≠ 107 → mu2 q = mu q) ∧ ∃ k, time = nI k ∧ k ≤ 180 ∧ ((tr = -1 ∧ r = nI (dpB S G M z z k)) ∨ (¬ tr = -1 ∧ ∃ T, tr = nI T ∧ T < z ∧ r = nI (tmR S G M z k (T + 1)).1)))) := by
  refine con_of (own := RX9) (by decide) rfl (Nat.le_of_ble_eq_true rfl) (fun X g hq => ?_)
  show WA X g RX9 9 cX9_most 0 [(0, vC 94), (1, vI time), (2, vI tr)] [] mu
  refine o_iload_n dX9_most_0 rfl rfl (by rfl) ?_
  refine o_i2l dX9_most_1 rfl ?_
  refine o_lconst (v := 0) dX9_most_2 rfl (by decide) ?_
  refine o_ldc2 dX9_most_3 rfl kc_X9_249 ?_
  refine o_callS cs_X9_in ct_X9_71 (c_in _ time 0 180) hq.2.2.2 (Nat.le_of_ble_eq_true rfl) dX9_most_6 rfl rfl rfl (Nat.le_of_ble_eq_true rfl) (fun r1 mu1 h1 => ?_)
  obtain ⟨em, h1⟩ := h1
  rw [em]
  refine o_if_eq (tgt := 30) dX9_most_9 (by decide) rfl (fun (c9 : r1 = 0) => ?_) (fun (c9 : ¬ r1 = 0) => ?_)
  · skip
    have b9 := (if10 h1).1 c9
    refine o_iconst (v := (-1)) dX9_most_30 rfl (by decide) ?_
    exact o_iret hq dX9_most_31 (Or.inl ⟨by simp [b9], rfl, rfl⟩)
  · skip
    have b9 := (if10 h1).2 c9
    refine o_iload_n dX9_most_12 rfl rfl (by rfl) ?_
    refine o_i2l dX9_most_13 rfl ?_
    refine o_ldc2 dX9_most_14 rfl kc_X9_251 ?_
    refine o_aload_n dX9_most_17 rfl rfl (by rfl) ?_
    refine o_getI cl_X9_157 dX9_most_18 rfl (by decide) (by rfl) (by rfl) ?_
    rw [ez]
    refine o_iconst (v := 1) dX9_most_21 rfl (by decide) ?_
    refine o_isub dX9_most_22 rfl ?_
    refine o_i2l dX9_most_23 rfl ?_
    refine o_callS cs_X9_in ct_X9_71 (c_in _ tr (-1) ((nI z) - 1)) hq.2.2.2 (Nat.le_of_ble_eq_true rfl) dX9_most_24 rfl rfl rfl (Nat.le_of_ble_eq_true rfl) (fun r2 mu2 h2 => ?_)
    obtain ⟨em, h2⟩ := h2
    rw [em]
    refine o_if_ne (tgt := 32) dX9_most_27 (by decide) rfl (fun (c27 : ¬ r2 = 0) => ?_) (fun (c27 : r2 = 0) => ?_)
    · skip
      have b27 := (if10 h2).2 c27
      obtain ⟨k0, ek0, -, hk0⟩ := inB_nI (l := 0) (m := 180) (by decide) (by decide) b9
      subst ek0
      refine o_iconst (v := 0) dX9_most_32 rfl (by decide) ?_
      refine o_istore_n (L' := [(0, vC 94), (1, vI (nI k0)), (2, vI tr), (3, vI 0)]) dX9_most_33 rfl rfl (by decide) (by rfl) (by rfl) ?_
      have LP34 : ∀ (nLP34 : Nat) (i : Nat) (m : Mu) , (i ≤ 181) → (∀ q, q ≠ 107 → m q = mu q) → (∀ j, j < i → m 107 (181 * z + j) = 0) → (181 < i + nLP34) → WA X g RX9 9 cX9_most 34 [(0, vC 94), (1, vI (nI k0)), (2, vI tr), (3, vI (nI i))] [] m := by
        intro nLP34
        induction nLP34 with
        | zero =>
          intro i m hi hF hA hm
          exact absurd hm (by omega)
        | succ nLP34 ihLP34 =>
          intro i m hi hF hA hm
          refine o_iload_n dX9_most_34 rfl rfl (by rfl) ?_
          refine o_sipush (v := 181) dX9_most_35 rfl (by decide) ?_
          refine o_icmp_ge (tgt := 63) dX9_most_38 (by decide) rfl (fun (c38 : 181 ≤ (nI i)) => ?_) (fun (c38 : ¬ 181 ≤ (nI i)) => ?_)
          · skip
            have hi2 := nI_dec2 (b := 181) c38 (by omega) (by decide)
            refine o_aload_n dX9_most_63 rfl rfl (by rfl) ?_
            refine o_getI cl_X9_157 dX9_most_64 rfl (by decide) (by rfl) (by rfl) ?_
            rw [show m 94 5 = nI z by rw [hF 94 (by decide)]; exact ez]
            refine o_iconst (v := 1) dX9_most_67 rfl (by decide) ?_
            refine o_isub dX9_most_68 rfl ?_
            refine o_istore_n (L' := [(0, vC 94), (1, vI (nI k0)), (2, vI tr), (3, vI ((nI z) - 1))]) dX9_most_69 rfl rfl (by decide) (by rfl) (by rfl) ?_
            have LP70 : ∀ (nLP70 : Nat) (t : Nat) (m : Mu) , (t ≤ z) → (SMN S G M mu m z t) → (t < nLP70) → WA X g RX9 9 cX9_most 70 [(0, vC 94), (1, vI (nI k0)), (2, vI tr), (3, vI (nI t - 1))] [] m := by
              intro nLP70
              induction nLP70 with
              | zero =>
                intro t m ht0 hP hm
                exact absurd hm (by omega)
              | succ nLP70 ihLP70 =>
                intro t m ht0 hP hm
                refine o_iload_n dX9_most_70 rfl rfl (by rfl) ?_
                refine o_if_lt (tgt := 233) dX9_most_71 (by decide) rfl (fun (c71 : (nI t - 1) < 0) => ?_) (fun (c71 : ¬ (nI t - 1) < 0) => ?_)
                · skip
                  have et : t = 0 := t_zero c71 (by omega)
                  rw [et] at hP
                  refine o_iload_n dX9_most_233 rfl rfl (by rfl) ?_
                  refine o_if_ge (tgt := 244) dX9_most_234 (by decide) rfl (fun (c234 : 0 ≤ tr) => ?_) (fun (c234 : ¬ 0 ≤ tr) => ?_)
                  · skip
                    obtain ⟨T, eT, hT⟩ := (in_tr hz b27).resolve_left (fun h9 => by rw [h9] at c234; exact absurd c234 (by decide))
                    subst eT
                    refine o_iload_n dX9_most_244 rfl rfl (by rfl) ?_
                    refine o_istore_n (L' := [(0, vC 94), (1, vI (nI k0)), (2, vI (nI T)), (3, vI (nI k0))]) dX9_most_245 rfl rfl (by decide) (by rfl) (by rfl) ?_
                    refine o_iconst (v := 0) dX9_most_246 rfl (by decide) ?_
                    refine o_istore (L' := [(0, vC 94), (1, vI (nI k0)), (2, vI (nI T)), (3, vI (nI k0)), (4, vI 0)]) dX9_most_247 rfl (by decide) (by rfl) (by rfl) ?_
                    refine o_iconst (v := 0) dX9_most_249 rfl (by decide) ?_
                    refine o_istore (L' := [(0, vC 94), (1, vI (nI k0)), (2, vI (nI T)), (3, vI (nI k0)), (4, vI 0), (5, vI 0)]) dX9_most_250 rfl (by decide) (by rfl) (by rfl) ?_
                    have LP252 : ∀ (nLP252 : Nat) (i : Nat) , (i ≤ T + 1) → (T + 1 < i + nLP252) → WA X g RX9 9 cX9_most 252 [(0, vC 94), (1, vI (nI k0)), (2, vI (nI T)), (3, vI (nI (tmR S G M z k0 i).2)), (4, vI (nI (tmR S G M z k0 i).1)), (5, vI (nI i))] [] m := by
                      intro nLP252
                      induction nLP252 with
                      | zero =>
                        intro i hi hm4
                        exact absurd hm4 (by omega)
                      | succ nLP252 ihLP252 =>
                        intro i hi hm4
                        refine o_iload dX9_most_252 rfl (by rfl) ?_
                        refine o_iload_n dX9_most_254 rfl rfl (by rfl) ?_
                        refine o_icmp_gt (tgt := 395) dX9_most_255 (by decide) rfl (fun (c255 : (nI T) < (nI i)) => ?_) (fun (c255 : ¬ (nI T) < (nI i)) => ?_)
                        · skip
                          have hlt := (nI_ltI (by omega) (by omega)).mp c255
                          have e2 : i = T + 1 := by omega
                          refine o_iload dX9_most_395 rfl (by rfl) ?_
                          exact o_iret hq dX9_most_397 (Or.inr ⟨by simp [b9, b27], hP.1, k0, rfl, hk0, Or.inr ⟨nI_nem1 (by omega), T, rfl, hT, by rw [e2]⟩⟩)
                        · skip
                          have hiT : i ≤ T := Nat.le_of_not_lt (fun q => c255 (nI_lt q (by omega)))
                          have hlf := tmR_le S G M z k0 i
                          have hb9 := dpB_le (S := S) (fun q hq => (hR q hq).2.1) (fun q hq => (hR q hq).2.2.2.2.2.2.2)
                          refine o_aload_n dX9_most_258 rfl rfl (by rfl) ?_
                          refine o_getC (q := 98) cl_X9_19 dX9_most_259 rfl (by decide) (by rfl) (by rfl) ?_
                          refine o_iconst (v := 4) dX9_most_262 rfl (by decide) ?_
                          refine o_iload dX9_most_263 rfl (by rfl) ?_
                          refine o_imul dX9_most_265 rfl ?_
                          refine o_iald dX9_most_266 rfl (by decide) (by rfl) (by rfl) (ixc (a := 4) (by omega) (by decide)) ?_
                          refine o_aload_n dX9_most_267 rfl rfl (by rfl) ?_
                          refine o_getC (q := 98) cl_X9_19 dX9_most_268 rfl (by decide) (by rfl) (by rfl) ?_
                          refine o_iconst (v := 4) dX9_most_271 rfl (by decide) ?_
                          refine o_iload dX9_most_272 rfl (by rfl) ?_
                          refine o_imul dX9_most_274 rfl ?_
                          refine o_iconst (v := 2) dX9_most_275 rfl (by decide) ?_
                          refine o_iadd dX9_most_276 rfl ?_
                          refine o_iald dX9_most_277 rfl (by decide) (by rfl) (by rfl) (ixb (a := 4) (t := 2) (by omega) (by decide)) ?_
                          refine o_imul dX9_most_278 rfl ?_
                          rw [(hR i (by omega)).g (hP.1 98 (by decide)) (by omega)]
                          refine o_istore (L' := [(0, vC 94), (1, vI (nI k0)), (2, vI (nI T)), (3, vI (nI (tmR S G M z k0 i).2)), (4, vI (nI (tmR S G M z k0 i).1)), (5, vI (nI i)), (6, vI (nI (G i)))]) dX9_most_279 rfl (by decide) (by rfl) (by rfl) ?_
                          refine o_aload_n dX9_most_281 rfl rfl (by rfl) ?_
                          refine o_getC (q := 98) cl_X9_19 dX9_most_282 rfl (by decide) (by rfl) (by rfl) ?_
                          refine o_iconst (v := 4) dX9_most_285 rfl (by decide) ?_
                          refine o_iload dX9_most_286 rfl (by rfl) ?_
                          refine o_imul dX9_most_288 rfl ?_
                          refine o_iconst (v := 3) dX9_most_289 rfl (by decide) ?_
                          refine o_iadd dX9_most_290 rfl ?_
                          refine o_iald dX9_most_291 rfl (by decide) (by rfl) (by rfl) (ixb (a := 4) (t := 3) (by omega) (by decide)) ?_
                          rw [(hR i (by omega)).m (hP.1 98 (by decide)) (by omega)]
                          refine o_istore (L' := [(0, vC 94), (1, vI (nI k0)), (2, vI (nI T)), (3, vI (nI (tmR S G M z k0 i).2)), (4, vI (nI (M i))), (5, vI (nI i)), (6, vI (nI (G i)))]) dX9_most_292 rfl (by decide) (by rfl) (by rfl) ?_
                          have LP294 : ∀ (nLP294 : Nat) (n : Nat) , (n ≤ M i) → (n ≤ 9) → (∃ n9, n9 ≤ n ∧ n9 * S i ≤ (tmR S G M z k0 i).2 ∧ n9 * G i + (dpB S G M z (z - (i + 1))) ((tmR S G M z k0 i).2 - n9 * S i) = dpB S G M z (z - i) (tmR S G M z k0 i).2) → (dwn (dwP (S i) (G i) (tmR S G M z k0 i).2 (dpB S G M z (z - i) (tmR S G M z k0 i).2) (dpB S G M z (z - (i + 1)))) n = dwn (dwP (S i) (G i) (tmR S G M z k0 i).2 (dpB S G M z (z - i) (tmR S G M z k0 i).2) (dpB S G M z (z - (i + 1)))) (M i)) → (n < nLP294) → WA X g RX9 9 cX9_most 294 [(0, vC 94), (1, vI (nI k0)), (2, vI (nI T)), (3, vI (nI (tmR S G M z k0 i).2)), (4, vI (nI n)), (5, vI (nI i)), (6, vI (nI (G i)))] [] m := by
                            intro nLP294
                            induction nLP294 with
                            | zero =>
                              intro n hnM hn9 hat hd hm5
                              exact absurd hm5 (by omega)
                            | succ nLP294 ihLP294 =>
                              intro n hnM hn9 hat hd hm5
                              refine o_iload dX9_most_294 rfl (by rfl) ?_
                              refine o_aload_n dX9_most_296 rfl rfl (by rfl) ?_
                              refine o_getC (q := 98) cl_X9_19 dX9_most_297 rfl (by decide) (by rfl) (by rfl) ?_
                              refine o_iconst (v := 4) dX9_most_300 rfl (by decide) ?_
                              refine o_iload dX9_most_301 rfl (by rfl) ?_
                              refine o_imul dX9_most_303 rfl ?_
                              refine o_iconst (v := 1) dX9_most_304 rfl (by decide) ?_
                              refine o_iadd dX9_most_305 rfl ?_
                              refine o_iald dX9_most_306 rfl (by decide) (by rfl) (by rfl) (ixb (a := 4) (t := 1) (by omega) (by decide)) ?_
                              rw [(hR i (by omega)).s (hP.1 98 (by decide)) (by omega)]
                              refine o_imul dX9_most_307 rfl ?_
                              rw [pk_mul]
                              refine o_iload_n dX9_most_308 rfl rfl (by rfl) ?_
                              refine o_icmp_gt (tgt := 366) dX9_most_309 (by decide) rfl (fun (c309 : (nI (tmR S G M z k0 i).2) < (nI (n * S i))) => ?_) (fun (c309 : ¬ (nI (tmR S G M z k0 i).2) < (nI (n * S i))) => ?_)
                              · skip
                                have hno : ¬ dwP (S i) (G i) (tmR S G M z k0 i).2 (dpB S G M z (z - i) (tmR S G M z k0 i).2) (dpB S G M z (z - (i + 1))) n = true := fun h9 => absurd (of_decide_eq_true h9).1 (by have := (nI_ltI (by omega) (by have := Nat.mul_le_mul hn9 (hR i (by omega)).2.2.2.2.1; omega)).mp c309; omega)
                                have hn0 : n ≠ 0 := fun h9 => by obtain ⟨n9, q1, q2, q3⟩ := hat; rw [show n9 = n by omega] at q2 q3; exact hno (decide_eq_true ⟨q2, q3⟩)
                                refine o_iinc (v := nI (n - 1)) (L' := [(0, vC 94), (1, vI (nI k0)), (2, vI (nI T)), (3, vI (nI (tmR S G M z k0 i).2)), (4, vI (nI (n - 1))), (5, vI (nI i)), (6, vI (nI (G i)))]) dX9_most_366 rfl (by rfl) (by exact (by obtain ⟨n1, rfl⟩ : ∃ n1, n = n1 + 1 := ⟨n - 1, by omega⟩; exact pk_m1 n1)) (by decide) (by rfl) (by rfl) ?_
                                refine o_goto (tgt := 294) dX9_most_369 (by decide) ?_
                                exact ihLP294 (n - 1) (by omega) (by omega) (by obtain ⟨n9, q1, q2, q3⟩ := hat; refine ⟨n9, ?_, q2, q3⟩; have : n9 ≠ n := (fun h9 => hno (decide_eq_true (by rw [← h9]; exact ⟨q2, q3⟩))); omega) (by rw [← hd]; cases n with | zero => exact absurd rfl hn0 | succ n9 => exact (if_neg hno).symm) (by omega)
                              · skip
                                have hle : n * S i ≤ (tmR S G M z k0 i).2 := Nat.le_of_not_lt (fun q => c309 (nI_lt q (by have := Nat.mul_le_mul hn9 (hR i (by omega)).2.2.2.2.1; omega)))
                                have hnG := Nat.mul_le_mul hn9 (hR i (by omega)).2.1
                                have hb7 := hb9 (z - (i + 1)) (by omega) ((tmR S G M z k0 i).2 - n * S i)
                                have hb6 := hb9 (z - i) (by omega) (tmR S G M z k0 i).2
                                have hup : n * G i + (dpB S G M z (z - (i + 1))) ((tmR S G M z k0 i).2 - n * S i) ≤ dpB S G M z (z - i) (tmR S G M z k0 i).2 := by have h9 := dpM_up (s := S i) (g := G i) (k := (tmR S G M z k0 i).2) (B := (dpB S G M z (z - (i + 1)))) (m := M i + 1) (n := n) (by omega) hle; rw [show z - i = (z - (i + 1)) + 1 by omega]; show _ ≤ dpM (S (z - 1 - (z - (i + 1)))) (G (z - 1 - (z - (i + 1)))) _ (dpB S G M z (z - (i + 1))) (M (z - 1 - (z - (i + 1))) + 1); rw [show z - 1 - (z - (i + 1)) = i by omega]; exact h9
                                refine o_iload dX9_most_312 rfl (by rfl) ?_
                                refine o_iload dX9_most_314 rfl (by rfl) ?_
                                refine o_imul dX9_most_316 rfl ?_
                                rw [pk_mul]
                                refine o_aload_n dX9_most_317 rfl rfl (by rfl) ?_
                                refine o_getC (q := 107) cl_X9_50 dX9_most_318 rfl (by decide) (by rfl) (by rfl) ?_
                                refine o_sipush (v := 181) dX9_most_321 rfl (by decide) ?_
                                refine o_iload dX9_most_324 rfl (by rfl) ?_
                                refine o_imul dX9_most_326 rfl ?_
                                refine o_sipush (v := 181) dX9_most_327 rfl (by decide) ?_
                                refine o_iadd dX9_most_330 rfl ?_
                                refine o_iload_n dX9_most_331 rfl rfl (by rfl) ?_
                                refine o_iadd dX9_most_332 rfl ?_
                                refine o_iload dX9_most_333 rfl (by rfl) ?_
                                refine o_aload_n dX9_most_335 rfl rfl (by rfl) ?_
                                refine o_getC (q := 98) cl_X9_19 dX9_most_336 rfl (by decide) (by rfl) (by rfl) ?_
                                refine o_iconst (v := 4) dX9_most_339 rfl (by decide) ?_
                                refine o_iload dX9_most_340 rfl (by rfl) ?_
                                refine o_imul dX9_most_342 rfl ?_
                                refine o_iconst (v := 1) dX9_most_343 rfl (by decide) ?_
                                refine o_iadd dX9_most_344 rfl ?_
                                refine o_iald dX9_most_345 rfl (by decide) (by rfl) (by rfl) (ixb (a := 4) (t := 1) (by omega) (by decide)) ?_
                                rw [(hR i (by omega)).s (hP.1 98 (by decide)) (by omega)]
                                refine o_imul dX9_most_346 rfl ?_
                                refine o_isub dX9_most_347 rfl ?_
                                rw [ix1R hle]
                                refine o_iald dX9_most_348 rfl (by decide) (by rfl) (by rfl) (vp_in_nI (by omega) (by decide)) ?_
                                rw [nI_clamp (by omega), hP.2 (i + 1) (by omega) (by omega) ((tmR S G M z k0 i).2 - n * S i) (by omega)]
                                refine o_iadd dX9_most_349 rfl ?_
                                rw [nI_add]
                                refine o_aload_n dX9_most_350 rfl rfl (by rfl) ?_
                                refine o_getC (q := 107) cl_X9_50 dX9_most_351 rfl (by decide) (by rfl) (by rfl) ?_
                                refine o_sipush (v := 181) dX9_most_354 rfl (by decide) ?_
                                refine o_iload dX9_most_357 rfl (by rfl) ?_
                                refine o_imul dX9_most_359 rfl ?_
                                refine o_iload_n dX9_most_360 rfl rfl (by rfl) ?_
                                refine o_iadd dX9_most_361 rfl ?_
                                rw [ix0R]
                                refine o_iald dX9_most_362 rfl (by decide) (by rfl) (by rfl) (vp_in_nI (by omega) (by decide)) ?_
                                rw [nI_clamp (by omega), hP.2 i (by omega) (by omega) (tmR S G M z k0 i).2 (by omega)]
                                refine o_icmp_ge (tgt := 372) dX9_most_363 (by decide) rfl (fun (c363 : (nI (dpB S G M z (z - i) (tmR S G M z k0 i).2)) ≤ (nI (n * G i + (dpB S G M z (z - (i + 1))) ((tmR S G M z k0 i).2 - n * S i)))) => ?_) (fun (c363 : ¬ (nI (dpB S G M z (z - i) (tmR S G M z k0 i).2)) ≤ (nI (n * G i + (dpB S G M z (z - (i + 1))) ((tmR S G M z k0 i).2 - n * S i)))) => ?_)
                                · skip
                                  have hyes : dwP (S i) (G i) (tmR S G M z k0 i).2 (dpB S G M z (z - i) (tmR S G M z k0 i).2) (dpB S G M z (z - (i + 1))) n = true := decide_eq_true ⟨hle, by have h8 := (nI_leJ (by omega) (by omega)).mp c363; omega⟩
                                  have en : n = tmZ S G M z i (tmR S G M z k0 i).2 := by unfold tmZ; rw [← hd]; cases n with | zero => rfl | succ n9 => exact (if_pos hyes).symm
                                  refine o_iload_n dX9_most_372 rfl rfl (by rfl) ?_
                                  refine o_iload dX9_most_373 rfl (by rfl) ?_
                                  refine o_aload_n dX9_most_375 rfl rfl (by rfl) ?_
                                  refine o_getC (q := 98) cl_X9_19 dX9_most_376 rfl (by decide) (by rfl) (by rfl) ?_
                                  refine o_iconst (v := 4) dX9_most_379 rfl (by decide) ?_
                                  refine o_iload dX9_most_380 rfl (by rfl) ?_
                                  refine o_imul dX9_most_382 rfl ?_
                                  refine o_iconst (v := 1) dX9_most_383 rfl (by decide) ?_
                                  refine o_iadd dX9_most_384 rfl ?_
                                  refine o_iald dX9_most_385 rfl (by decide) (by rfl) (by rfl) (ixb (a := 4) (t := 1) (by omega) (by decide)) ?_
                                  rw [(hR i (by omega)).s (hP.1 98 (by decide)) (by omega)]
                                  refine o_imul dX9_most_386 rfl ?_
                                  refine o_isub dX9_most_387 rfl ?_
                                  rw [pk_mul, pk_sub hle]
                                  refine o_istore_n (L' := [(0, vC 94), (1, vI (nI k0)), (2, vI (nI T)), (3, vI (nI ((tmR S G M z k0 i).2 - n * S i))), (4, vI (nI n)), (5, vI (nI i)), (6, vI (nI (G i)))]) dX9_most_388 rfl rfl (by decide) (by rfl) (by rfl) ?_
                                  refine o_iinc (v := nI (i + 1)) (L' := [(0, vC 94), (1, vI (nI k0)), (2, vI (nI T)), (3, vI (nI ((tmR S G M z k0 i).2 - n * S i))), (4, vI (nI n)), (5, vI (nI (i + 1))), (6, vI (nI (G i)))]) dX9_most_389 rfl (by rfl) (by exact nI_1 i) (by decide) (by rfl) (by rfl) ?_
                                  refine o_goto (tgt := 252) dX9_most_392 (by decide) ?_
                                  refine o_pick (L' := [(0, vC 94), (1, vI (nI k0)), (2, vI (nI T)), (3, vI (nI ((tmR S G M z k0 i).2 - n * S i))), (4, vI (nI n)), (5, vI (nI (i + 1)))]) [0, 1, 2, 3, 4, 5] (by rfl) ?_
                                  rw [en]
                                  exact ihLP252 (i + 1) (by omega) (by omega)
                                · skip
                                  have hno : ¬ dwP (S i) (G i) (tmR S G M z k0 i).2 (dpB S G M z (z - i) (tmR S G M z k0 i).2) (dpB S G M z (z - (i + 1))) n = true := fun h9 => c363 (by rw [(of_decide_eq_true h9).2]; exact Int32.le_refl _)
                                  have hn0 : n ≠ 0 := fun h9 => by obtain ⟨n9, q1, q2, q3⟩ := hat; rw [show n9 = n by omega] at q2 q3; exact hno (decide_eq_true ⟨q2, q3⟩)
                                  refine o_iinc (v := nI (n - 1)) (L' := [(0, vC 94), (1, vI (nI k0)), (2, vI (nI T)), (3, vI (nI (tmR S G M z k0 i).2)), (4, vI (nI (n - 1))), (5, vI (nI i)), (6, vI (nI (G i)))]) dX9_most_366 rfl (by rfl) (by exact (by obtain ⟨n1, rfl⟩ : ∃ n1, n = n1 + 1 := ⟨n - 1, by omega⟩; exact pk_m1 n1)) (by decide) (by rfl) (by rfl) ?_
                                  refine o_goto (tgt := 294) dX9_most_369 (by decide) ?_
                                  exact ihLP294 (n - 1) (by omega) (by omega) (by obtain ⟨n9, q1, q2, q3⟩ := hat; refine ⟨n9, ?_, q2, q3⟩; have : n9 ≠ n := (fun h9 => hno (decide_eq_true (by rw [← h9]; exact ⟨q2, q3⟩))); omega) (by rw [← hd]; cases n with | zero => exact absurd rfl hn0 | succ n9 => exact (if_neg hno).symm) (by omega)
                          have hM9 := (hR i (by omega)).2.2.2.2.2.2.2
                          exact LP294 (M i + 1) (M i) (Nat.le_refl _) hM9 (by obtain ⟨n9, q1, q2, q3⟩ := dpM_at (s := S i) (g := G i) (k := (tmR S G M z k0 i).2) (B := (dpB S G M z (z - (i + 1)))) (M i); refine ⟨n9, q1, q2, q3.trans ?_⟩; rw [show z - i = (z - (i + 1)) + 1 by omega]; show _ = dpM (S (z - 1 - (z - (i + 1)))) (G (z - 1 - (z - (i + 1)))) _ (dpB S G M z (z - (i + 1))) (M (z - 1 - (z - (i + 1))) + 1); rw [show z - 1 - (z - (i + 1)) = i by omega]) rfl (by omega)
                    exact LP252 (T + 2) 0 (by omega) (by omega)
                  · skip
                    have etr : tr = -1 := (in_tr hz b27).resolve_right (fun ⟨T, h8, h9⟩ => c234 (by rw [h8]; exact nI_nn (by omega)))
                    refine o_aload_n dX9_most_237 rfl rfl (by rfl) ?_
                    refine o_getC (q := 107) cl_X9_50 dX9_most_238 rfl (by decide) (by rfl) (by rfl) ?_
                    refine o_iload_n dX9_most_241 rfl rfl (by rfl) ?_
                    refine o_iald dX9_most_242 rfl (by decide) (by rfl) (by rfl) (vp_in_nI (by omega) (by decide)) ?_
                    exact o_iret hq dX9_most_243 (Or.inr ⟨by simp [b9, b27], hP.1, k0, rfl, hk0, Or.inl ⟨etr, by rw [nI_clamp (by omega)]; have h9 := hP.2 0 (Nat.le_refl _) (by omega) k0 (by omega); rw [Nat.mul_zero, Nat.zero_add, Nat.sub_zero] at h9; exact h9⟩⟩)
                · skip
                  obtain ⟨t1, rfl⟩ := t_pos c71
                  rw [nI_pred]
                  have hG9 := (hR t1 (by omega)).2.1
                  have hM9 := (hR t1 (by omega)).2.2.2.2.2.2.2
                  have hS9 := (hR t1 (by omega)).2.2.2.2.1
                  have hb9 := dpB_le (S := S) (fun q hq => (hR q hq).2.1) (fun q hq => (hR q hq).2.2.2.2.2.2.2)
                  have hb8 := hb9 (z - (t1 + 1)) (by omega)
                  refine o_aload_n dX9_most_74 rfl rfl (by rfl) ?_
                  refine o_getC (q := 98) cl_X9_19 dX9_most_75 rfl (by decide) (by rfl) (by rfl) ?_
                  refine o_iconst (v := 4) dX9_most_78 rfl (by decide) ?_
                  refine o_iload_n dX9_most_79 rfl rfl (by rfl) ?_
                  refine o_imul dX9_most_80 rfl ?_
                  refine o_iald dX9_most_81 rfl (by decide) (by rfl) (by rfl) (ixc (a := 4) (by omega) (by decide)) ?_
                  refine o_aload_n dX9_most_82 rfl rfl (by rfl) ?_
                  refine o_getC (q := 98) cl_X9_19 dX9_most_83 rfl (by decide) (by rfl) (by rfl) ?_
                  refine o_iconst (v := 4) dX9_most_86 rfl (by decide) ?_
                  refine o_iload_n dX9_most_87 rfl rfl (by rfl) ?_
                  refine o_imul dX9_most_88 rfl ?_
                  refine o_iconst (v := 2) dX9_most_89 rfl (by decide) ?_
                  refine o_iadd dX9_most_90 rfl ?_
                  refine o_iald dX9_most_91 rfl (by decide) (by rfl) (by rfl) (ixb (a := 4) (t := 2) (by omega) (by decide)) ?_
                  refine o_imul dX9_most_92 rfl ?_
                  rw [(hR t1 (by omega)).g (hP.1 98 (by decide)) (by omega)]
                  refine o_istore (L' := [(0, vC 94), (1, vI (nI k0)), (2, vI tr), (3, vI (nI t1)), (4, vI (nI (G t1)))]) dX9_most_93 rfl (by decide) (by rfl) (by rfl) ?_
                  refine o_iconst (v := 0) dX9_most_95 rfl (by decide) ?_
                  refine o_istore (L' := [(0, vC 94), (1, vI (nI k0)), (2, vI tr), (3, vI (nI t1)), (4, vI (nI (G t1))), (5, vI 0)]) dX9_most_96 rfl (by decide) (by rfl) (by rfl) ?_
                  have LP98 : ∀ (nLP98 : Nat) (k : Nat) (m2 : Mu) , (k ≤ 181) → (SMQ S G M mu m2 z t1 k) → (181 < k + nLP98) → WA X g RX9 9 cX9_most 98 [(0, vC 94), (1, vI (nI k0)), (2, vI tr), (3, vI (nI t1)), (4, vI (nI (G t1))), (5, vI (nI k))] [] m2 := by
                    intro nLP98
                    induction nLP98 with
                    | zero =>
                      intro k m2 hk hQ hm2
                      exact absurd hm2 (by omega)
                    | succ nLP98 ihLP98 =>
                      intro k m2 hk hQ hm2
                      refine o_iload dX9_most_98 rfl (by rfl) ?_
                      refine o_sipush (v := 181) dX9_most_100 rfl (by decide) ?_
                      refine o_icmp_ge (tgt := 227) dX9_most_103 (by decide) rfl (fun (c103 : 181 ≤ (nI k)) => ?_) (fun (c103 : ¬ 181 ≤ (nI k)) => ?_)
                      · skip
                        have hj2 : k = 181 := by have := nI_dec2 (b := 181) c103 (by omega) (by decide); omega
                        refine o_iinc (v := nI t1 - 1) (L' := [(0, vC 94), (1, vI (nI k0)), (2, vI tr), (3, vI (nI t1 - 1)), (4, vI (nI (G t1))), (5, vI (nI k))]) dX9_most_227 rfl (by rfl) (by exact (show nI t1 + (-1) = nI t1 - 1 by grind)) (by decide) (by rfl) (by rfl) ?_
                        refine o_goto (tgt := 70) dX9_most_230 (by decide) ?_
                        refine o_pick (L' := [(0, vC 94), (1, vI (nI k0)), (2, vI tr), (3, vI (nI t1 - 1))]) [0, 1, 2, 3] (by rfl) ?_
                        exact ihLP70 t1 _ (by omega) (by rw [hj2] at hQ; exact hQ.down) (by omega)
                      · skip
                        have hj2 := nI_dec (b := 181) c103 (by omega) (by decide)
                        refine o_iconst (v := 0) dX9_most_106 rfl (by decide) ?_
                        refine o_istore (L' := [(0, vC 94), (1, vI (nI k0)), (2, vI tr), (3, vI (nI t1)), (4, vI (nI (G t1))), (5, vI (nI k)), (6, vI 0)]) dX9_most_107 rfl (by decide) (by rfl) (by rfl) ?_
                        refine o_iconst (v := 0) dX9_most_109 rfl (by decide) ?_
                        refine o_istore (L' := [(0, vC 94), (1, vI (nI k0)), (2, vI tr), (3, vI (nI t1)), (4, vI (nI (G t1))), (5, vI (nI k)), (6, vI 0), (7, vI 0)]) dX9_most_110 rfl (by decide) (by rfl) (by rfl) ?_
                        have LP112 : ∀ (nLP112 : Nat) (n : Nat) , (n ≤ M t1 + 1) → (M t1 + 1 < n + nLP112) → WA X g RX9 9 cX9_most 112 [(0, vC 94), (1, vI (nI k0)), (2, vI tr), (3, vI (nI t1)), (4, vI (nI (G t1))), (5, vI (nI k)), (6, vI (nI (dpM (S t1) (G t1) k (dpB S G M z (z - (t1 + 1))) n))), (7, vI (nI n))] [] m2 := by
                          intro nLP112
                          induction nLP112 with
                          | zero =>
                            intro n hn hm3
                            exact absurd hm3 (by omega)
                          | succ nLP112 ihLP112 =>
                            intro n hn hm3
                            refine o_iload dX9_most_112 rfl (by rfl) ?_
                            refine o_aload_n dX9_most_114 rfl rfl (by rfl) ?_
                            refine o_getC (q := 98) cl_X9_19 dX9_most_115 rfl (by decide) (by rfl) (by rfl) ?_
                            refine o_iconst (v := 4) dX9_most_118 rfl (by decide) ?_
                            refine o_iload_n dX9_most_119 rfl rfl (by rfl) ?_
                            refine o_imul dX9_most_120 rfl ?_
                            refine o_iconst (v := 3) dX9_most_121 rfl (by decide) ?_
                            refine o_iadd dX9_most_122 rfl ?_
                            refine o_iald dX9_most_123 rfl (by decide) (by rfl) (by rfl) (ixb (a := 4) (t := 3) (by omega) (by decide)) ?_
                            rw [(hR t1 (by omega)).m (hQ.1 98 (by decide)) (by omega)]
                            refine o_icmp_gt (tgt := 206) dX9_most_124 (by decide) rfl (fun (c124 : (nI (M t1)) < (nI n)) => ?_) (fun (c124 : ¬ (nI (M t1)) < (nI n)) => ?_)
                            · skip
                              have hlt := (nI_ltI (by omega) (by omega)).mp c124
                              have hend : dpM (S t1) (G t1) k (dpB S G M z (z - (t1 + 1))) n = dpM (S t1) (G t1) k (dpB S G M z (z - (t1 + 1))) (M t1 + 1) := by rw [show n = M t1 + 1 by omega]
                              refine o_aload_n dX9_most_206 rfl rfl (by rfl) ?_
                              refine o_getC (q := 107) cl_X9_50 dX9_most_207 rfl (by decide) (by rfl) (by rfl) ?_
                              refine o_sipush (v := 181) dX9_most_210 rfl (by decide) ?_
                              refine o_iload_n dX9_most_213 rfl rfl (by rfl) ?_
                              refine o_imul dX9_most_214 rfl ?_
                              refine o_iload dX9_most_215 rfl (by rfl) ?_
                              refine o_iadd dX9_most_217 rfl ?_
                              rw [ix0R]
                              refine o_iload dX9_most_218 rfl (by rfl) ?_
                              refine o_iast dX9_most_220 rfl (by decide) (by rfl) (by rfl) (vp_in_nI (by omega) (by decide)) ?_
                              refine o_iinc (v := nI (k + 1)) (L' := [(0, vC 94), (1, vI (nI k0)), (2, vI tr), (3, vI (nI t1)), (4, vI (nI (G t1))), (5, vI (nI (k + 1))), (6, vI (nI (dpM (S t1) (G t1) k (dpB S G M z (z - (t1 + 1))) n))), (7, vI (nI n))]) dX9_most_221 rfl (by rfl) (by exact nI_1 k) (by decide) (by rfl) (by rfl) ?_
                              refine o_goto (tgt := 98) dX9_most_224 (by decide) ?_
                              refine o_pick (L' := [(0, vC 94), (1, vI (nI k0)), (2, vI tr), (3, vI (nI t1)), (4, vI (nI (G t1))), (5, vI (nI (k + 1)))]) [0, 1, 2, 3, 4, 5] (by rfl) ?_
                              exact ihLP98 (k + 1) _ (by omega) (hQ.step (by omega) (by omega) (nI_clamp (by omega)) (congrArg nI hend)) (by omega)
                            · skip
                              have hnM : n ≤ M t1 := Nat.le_of_not_lt (fun q => c124 (nI_lt q (by omega)))
                              have hnS := Nat.mul_le_mul (show n ≤ 9 by omega) hS9
                              have hnG := Nat.mul_le_mul (show n ≤ 9 by omega) hG9
                              refine o_iload dX9_most_127 rfl (by rfl) ?_
                              refine o_aload_n dX9_most_129 rfl rfl (by rfl) ?_
                              refine o_getC (q := 98) cl_X9_19 dX9_most_130 rfl (by decide) (by rfl) (by rfl) ?_
                              refine o_iconst (v := 4) dX9_most_133 rfl (by decide) ?_
                              refine o_iload_n dX9_most_134 rfl rfl (by rfl) ?_
                              refine o_imul dX9_most_135 rfl ?_
                              refine o_iconst (v := 1) dX9_most_136 rfl (by decide) ?_
                              refine o_iadd dX9_most_137 rfl ?_
                              refine o_iald dX9_most_138 rfl (by decide) (by rfl) (by rfl) (ixb (a := 4) (t := 1) (by omega) (by decide)) ?_
                              rw [(hR t1 (by omega)).s (hQ.1 98 (by decide)) (by omega)]
                              refine o_imul dX9_most_139 rfl ?_
                              rw [pk_mul]
                              refine o_iload dX9_most_140 rfl (by rfl) ?_
                              refine o_icmp_gt (tgt := 206) dX9_most_142 (by decide) rfl (fun (c142 : (nI k) < (nI (n * S t1))) => ?_) (fun (c142 : ¬ (nI k) < (nI (n * S t1))) => ?_)
                              · skip
                                have hlt := (nI_ltI (by omega) (by omega)).mp c142
                                have hend : dpM (S t1) (G t1) k (dpB S G M z (z - (t1 + 1))) n = dpM (S t1) (G t1) k (dpB S G M z (z - (t1 + 1))) (M t1 + 1) := by rw [show M t1 + 1 = n + (M t1 + 1 - n) by omega]; exact (dpM_stop hlt _).symm
                                refine o_aload_n dX9_most_206 rfl rfl (by rfl) ?_
                                refine o_getC (q := 107) cl_X9_50 dX9_most_207 rfl (by decide) (by rfl) (by rfl) ?_
                                refine o_sipush (v := 181) dX9_most_210 rfl (by decide) ?_
                                refine o_iload_n dX9_most_213 rfl rfl (by rfl) ?_
                                refine o_imul dX9_most_214 rfl ?_
                                refine o_iload dX9_most_215 rfl (by rfl) ?_
                                refine o_iadd dX9_most_217 rfl ?_
                                rw [ix0R]
                                refine o_iload dX9_most_218 rfl (by rfl) ?_
                                refine o_iast dX9_most_220 rfl (by decide) (by rfl) (by rfl) (vp_in_nI (by omega) (by decide)) ?_
                                refine o_iinc (v := nI (k + 1)) (L' := [(0, vC 94), (1, vI (nI k0)), (2, vI tr), (3, vI (nI t1)), (4, vI (nI (G t1))), (5, vI (nI (k + 1))), (6, vI (nI (dpM (S t1) (G t1) k (dpB S G M z (z - (t1 + 1))) n))), (7, vI (nI n))]) dX9_most_221 rfl (by rfl) (by exact nI_1 k) (by decide) (by rfl) (by rfl) ?_
                                refine o_goto (tgt := 98) dX9_most_224 (by decide) ?_
                                refine o_pick (L' := [(0, vC 94), (1, vI (nI k0)), (2, vI tr), (3, vI (nI t1)), (4, vI (nI (G t1))), (5, vI (nI (k + 1)))]) [0, 1, 2, 3, 4, 5] (by rfl) ?_
                                exact ihLP98 (k + 1) _ (by omega) (hQ.step (by omega) (by omega) (nI_clamp (by omega)) (congrArg nI hend)) (by omega)
                              · skip
                                have hle : n * S t1 ≤ k := Nat.le_of_not_lt (fun q => c142 (nI_lt q (by omega)))
                                have hb7 := hb8 (k - n * S t1)
                                have hd7 := dpM_le (s := S t1) (k := k) (m := M t1 + 1) (B := (dpB S G M z (z - (t1 + 1)))) hG9 hb8 n (by omega) (by omega)
                                refine o_iload dX9_most_145 rfl (by rfl) ?_
                                refine o_iload dX9_most_147 rfl (by rfl) ?_
                                refine o_imul dX9_most_149 rfl ?_
                                rw [pk_mul]
                                refine o_aload_n dX9_most_150 rfl rfl (by rfl) ?_
                                refine o_getC (q := 107) cl_X9_50 dX9_most_151 rfl (by decide) (by rfl) (by rfl) ?_
                                refine o_sipush (v := 181) dX9_most_154 rfl (by decide) ?_
                                refine o_iload_n dX9_most_157 rfl rfl (by rfl) ?_
                                refine o_imul dX9_most_158 rfl ?_
                                refine o_sipush (v := 181) dX9_most_159 rfl (by decide) ?_
                                refine o_iadd dX9_most_162 rfl ?_
                                refine o_iload dX9_most_163 rfl (by rfl) ?_
                                refine o_iadd dX9_most_165 rfl ?_
                                refine o_iload dX9_most_166 rfl (by rfl) ?_
                                refine o_aload_n dX9_most_168 rfl rfl (by rfl) ?_
                                refine o_getC (q := 98) cl_X9_19 dX9_most_169 rfl (by decide) (by rfl) (by rfl) ?_
                                refine o_iconst (v := 4) dX9_most_172 rfl (by decide) ?_
                                refine o_iload_n dX9_most_173 rfl rfl (by rfl) ?_
                                refine o_imul dX9_most_174 rfl ?_
                                refine o_iconst (v := 1) dX9_most_175 rfl (by decide) ?_
                                refine o_iadd dX9_most_176 rfl ?_
                                refine o_iald dX9_most_177 rfl (by decide) (by rfl) (by rfl) (ixb (a := 4) (t := 1) (by omega) (by decide)) ?_
                                rw [(hR t1 (by omega)).s (hQ.1 98 (by decide)) (by omega)]
                                refine o_imul dX9_most_178 rfl ?_
                                refine o_isub dX9_most_179 rfl ?_
                                rw [ix1R hle]
                                refine o_iald dX9_most_180 rfl (by decide) (by rfl) (by rfl) (vp_in_nI (by omega) (by decide)) ?_
                                rw [nI_clamp (by omega), hQ.2.1 (t1 + 1) (Nat.le_refl _) (by omega) (k - n * S t1) (by omega)]
                                refine o_iadd dX9_most_181 rfl ?_
                                rw [nI_add]
                                refine o_istore (L' := [(0, vC 94), (1, vI (nI k0)), (2, vI tr), (3, vI (nI t1)), (4, vI (nI (G t1))), (5, vI (nI k)), (6, vI (nI (dpM (S t1) (G t1) k (dpB S G M z (z - (t1 + 1))) n))), (7, vI (nI n)), (8, vI (nI (n * G t1 + (dpB S G M z (z - (t1 + 1))) (k - n * S t1))))]) dX9_most_182 rfl (by decide) (by rfl) (by rfl) ?_
                                refine o_iload dX9_most_184 rfl (by rfl) ?_
                                refine o_iload dX9_most_186 rfl (by rfl) ?_
                                refine o_icmp_le (tgt := 196) dX9_most_188 (by decide) rfl (fun (c188 : (nI (n * G t1 + (dpB S G M z (z - (t1 + 1))) (k - n * S t1))) ≤ (nI (dpM (S t1) (G t1) k (dpB S G M z (z - (t1 + 1))) n))) => ?_) (fun (c188 : ¬ (nI (n * G t1 + (dpB S G M z (z - (t1 + 1))) (k - n * S t1))) ≤ (nI (dpM (S t1) (G t1) k (dpB S G M z (z - (t1 + 1))) n))) => ?_)
                                · skip
                                  have hv := (nI_leJ (by omega) (by omega)).mp c188
                                  refine o_iload dX9_most_196 rfl (by rfl) ?_
                                  refine o_istore (L' := [(0, vC 94), (1, vI (nI k0)), (2, vI tr), (3, vI (nI t1)), (4, vI (nI (G t1))), (5, vI (nI k)), (6, vI (nI (dpM (S t1) (G t1) k (dpB S G M z (z - (t1 + 1))) n))), (7, vI (nI n)), (8, vI (nI (n * G t1 + (dpB S G M z (z - (t1 + 1))) (k - n * S t1))))]) dX9_most_198 rfl (by decide) (by rfl) (by rfl) ?_
                                  refine o_iinc (v := nI (n + 1)) (L' := [(0, vC 94), (1, vI (nI k0)), (2, vI tr), (3, vI (nI t1)), (4, vI (nI (G t1))), (5, vI (nI k)), (6, vI (nI (dpM (S t1) (G t1) k (dpB S G M z (z - (t1 + 1))) n))), (7, vI (nI (n + 1))), (8, vI (nI (n * G t1 + (dpB S G M z (z - (t1 + 1))) (k - n * S t1))))]) dX9_most_200 rfl (by rfl) (by exact nI_1 n) (by decide) (by rfl) (by rfl) ?_
                                  refine o_goto (tgt := 112) dX9_most_203 (by decide) ?_
                                  refine o_pick (L' := [(0, vC 94), (1, vI (nI k0)), (2, vI tr), (3, vI (nI t1)), (4, vI (nI (G t1))), (5, vI (nI k)), (6, vI (nI (dpM (S t1) (G t1) k (dpB S G M z (z - (t1 + 1))) n))), (7, vI (nI (n + 1)))]) [0, 1, 2, 3, 4, 5, 6, 7] (by rfl) ?_
                                  rw [dpM_s1 hle hv]
                                  exact ihLP112 (n + 1) (by omega) (by omega)
                                · skip
                                  have hv : ¬ n * G t1 + (dpB S G M z (z - (t1 + 1))) (k - n * S t1) ≤ dpM (S t1) (G t1) k (dpB S G M z (z - (t1 + 1))) n := fun h9 => c188 ((nI_leJ (by omega) (by omega)).mpr h9)
                                  refine o_iload dX9_most_191 rfl (by rfl) ?_
                                  refine o_goto (tgt := 198) dX9_most_193 (by decide) ?_
                                  refine o_istore (L' := [(0, vC 94), (1, vI (nI k0)), (2, vI tr), (3, vI (nI t1)), (4, vI (nI (G t1))), (5, vI (nI k)), (6, vI (nI (n * G t1 + (dpB S G M z (z - (t1 + 1))) (k - n * S t1)))), (7, vI (nI n)), (8, vI (nI (n * G t1 + (dpB S G M z (z - (t1 + 1))) (k - n * S t1))))]) dX9_most_198 rfl (by decide) (by rfl) (by rfl) ?_
                                  refine o_iinc (v := nI (n + 1)) (L' := [(0, vC 94), (1, vI (nI k0)), (2, vI tr), (3, vI (nI t1)), (4, vI (nI (G t1))), (5, vI (nI k)), (6, vI (nI (n * G t1 + (dpB S G M z (z - (t1 + 1))) (k - n * S t1)))), (7, vI (nI (n + 1))), (8, vI (nI (n * G t1 + (dpB S G M z (z - (t1 + 1))) (k - n * S t1))))]) dX9_most_200 rfl (by rfl) (by exact nI_1 n) (by decide) (by rfl) (by rfl) ?_
                                  refine o_goto (tgt := 112) dX9_most_203 (by decide) ?_
                                  refine o_pick (L' := [(0, vC 94), (1, vI (nI k0)), (2, vI tr), (3, vI (nI t1)), (4, vI (nI (G t1))), (5, vI (nI k)), (6, vI (nI (n * G t1 + (dpB S G M z (z - (t1 + 1))) (k - n * S t1)))), (7, vI (nI (n + 1)))]) [0, 1, 2, 3, 4, 5, 6, 7] (by rfl) ?_
                                  rw [dpM_s2 hle hv]
                                  exact ihLP112 (n + 1) (by omega) (by omega)
                        exact LP112 (M t1 + 2) 0 (by omega) (by omega)
                  exact LP98 182 0 _ (by omega) hP.top (by omega)
            exact LP70 (z + 1) z _ (Nat.le_refl _) (SMN.init hF (fun j hj => hA j (by omega))) (by omega)
          · skip
            have hi2 := nI_dec (b := 181) c38 (by omega) (by decide)
            refine o_aload_n dX9_most_41 rfl rfl (by rfl) ?_
            refine o_getC (q := 107) cl_X9_50 dX9_most_42 rfl (by decide) (by rfl) (by rfl) ?_
            refine o_sipush (v := 181) dX9_most_45 rfl (by decide) ?_
            refine o_aload_n dX9_most_48 rfl rfl (by rfl) ?_
            refine o_getI cl_X9_157 dX9_most_49 rfl (by decide) (by rfl) (by rfl) ?_
            rw [show m 94 5 = nI z by rw [hF 94 (by decide)]; exact ez]
            refine o_imul dX9_most_52 rfl ?_
            refine o_iload_n dX9_most_53 rfl rfl (by rfl) ?_
            refine o_iadd dX9_most_54 rfl ?_
            rw [ix0R]
            refine o_iconst (v := 0) dX9_most_55 rfl (by decide) ?_
            refine o_iast dX9_most_56 rfl (by decide) (by rfl) (by rfl) (vp_in_nI (by omega) (by decide)) ?_
            refine o_iinc (v := nI (i + 1)) (L' := [(0, vC 94), (1, vI (nI k0)), (2, vI tr), (3, vI (nI (i + 1)))]) dX9_most_57 rfl (by rfl) (by exact nI_1 i) (by decide) (by rfl) (by rfl) ?_
            refine o_goto (tgt := 34) dX9_most_60 (by decide) ?_
            exact ihLP34 (i + 1) _ (by omega) (fun q hq => by rw [upF_k hq]; exact hF q hq) (lt_s (fun j hj => by rw [nI_clamp (by omega), upF_i (by omega)]; exact hA j hj) (by rw [nI_clamp (by omega), upF_s])) (by omega)
      exact LP34 182 0 _ (by omega) (fun _ _ => rfl) (fun j h => by omega) (by omega)
    · skip
      have b27 := (if10 h2).1 c27
      refine o_iconst (v := (-1)) dX9_most_30 rfl (by decide) ?_
      exact o_iret hq dX9_most_31 (Or.inl ⟨by simp [b9, b27], rfl, rfl⟩)
