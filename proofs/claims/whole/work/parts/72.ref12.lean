/-! ===== the reference: sheets ===== -/
def RHs (mu : Mu) : Prop := ∀ a, a < 4 → ¬ mu 109 a < 0 → ∃ z, z ≤ 24 ∧ mu 110 a = nI z
def refS (mu : Mu) (a : Nat) (lane i n : Int32) : Int32 := if mu 109 a < 0 then -11 else if ¬ mu 109 a = lane then -12 else if fitB (mu 110 a) i n = true then 0 else -13
theorem fit_iff {z : Nat} {i n : Int32} (hz : z ≤ 24) (hn : ¬ n < 0) : fitB (nI z) i n = true ↔ ¬ i < 0 ∧ i.toInt + n.toInt ≤ z := by
  unfold fitB
  rw [decide_eq_true_eq]
  have ez : (nI z).toInt = z := nI_toInt (by omega)
  have e0 : (0 : Int32).toInt = 0 := rfl
  have hi := i_rng i
  have hn2 := i_rng n
  rw [i_lt] at hn
  rw [i_lt, i_lt, i_lt, ez, e0]
  by_cases q : 0 ≤ i.toInt ∧ i.toInt ≤ z
  · have es : (nI z - i).toInt = z - i.toInt := by rw [i_sub, ez] <;> omega
    rw [i_lt, es]
    omega
  · constructor
    · rintro ⟨h1, h2, h3, -⟩; omega
    · rintro ⟨h1, h2⟩; omega
theorem j_le3 {a b c : Int32} : a.toInt64 + b.toInt64 ≤ c.toInt64 ↔ a.toInt + b.toInt ≤ c.toInt := by
  rw [Int64.le_iff_toInt_le, lg_i2l_add, Int32.toInt_toInt64]
theorem refS_or (mu : Mu) (a : Nat) (lane i n : Int32) : refS mu a lane i n = 0 ∨ refS mu a lane i n < 0 := by
  unfold refS
  split
  · exact Or.inr (by decide)
  · split
    · exact Or.inr (by decide)
    · split
      · exact Or.inl rfl
      · exact Or.inr (by decide)
theorem refS_0 {mu : Mu} {a : Nat} {lane i n : Int32} (h : refS mu a lane i n = 0) : ¬ mu 109 a < 0 ∧ mu 109 a = lane ∧ fitB (mu 110 a) i n = true := by
  unfold refS at h
  split at h
  · exact absurd h (by decide)
  · split at h
    · exact absurd h (by decide)
    · split at h
      · rename_i h1 h2 h3
        exact ⟨h1, Decidable.not_not.mp h2, h3⟩
      · exact absurd h (by decide)
theorem fitR {mu : Mu} {a N : Nat} {i : Int32} (hH : RHs mu) (ha : a < 4) (h0 : ¬ mu 109 a < 0) (hN : N < 1000) (h : fitB (mu 110 a) i (nI N) = true) : ∃ I, i = nI I ∧ I + N ≤ 24 := by
  obtain ⟨z, hz, ez⟩ := hH a ha h0
  rw [ez] at h
  obtain ⟨h1, h2⟩ := (fit_iff hz (nI_lt0 (by omega))).mp h
  obtain ⟨I, hI, eI⟩ := nI_of h1
  rw [eI, nI_toInt hI, nI_toInt (by omega)] at h2
  exact ⟨I, eI, by omega⟩
set_option maxHeartbeats 4000000 in
set_option maxRecDepth 100000 in
theorem c_X9_finds (mu : Mu) (hH : RHs mu) (a : Nat) (ha : a < 4) (lane i n : Int32) (hn : ¬ n < 0) : Con yX9_finds cX9_finds 5 (some .int) 0 [vC 94, vI (nI a), vI lane, vI i, vI n] mu (fun r mu2 => mu2 = mu ∧ r = refS mu a lane i n) := by
  refine con_of (own := RX9) (by decide) rfl (Nat.le_of_ble_eq_true rfl) (fun X g hq => ?_)
  show WA X g RX9 5 cX9_finds 0 [(0, vC 94), (1, vI (nI a)), (2, vI lane), (3, vI i), (4, vI n)] [] mu
  refine o_aload_n dX9_finds_0 rfl rfl (by rfl) ?_
  refine o_getC (q := 109) cl_X9_56 dX9_finds_1 rfl (by decide) (by rfl) (by rfl) ?_
  refine o_iload_n dX9_finds_4 rfl rfl (by rfl) ?_
  refine o_iald dX9_finds_5 rfl (by decide) (by rfl) (by rfl) (vp_in_nI (by omega) (by decide)) ?_
  refine o_if_ge (tgt := 12) dX9_finds_6 (by decide) rfl (fun (c6 : 0 ≤ (mu 109 (nI a).toNatClampNeg)) => ?_) (fun (c6 : ¬ 0 ≤ (mu 109 (nI a).toNatClampNeg)) => ?_)
  · skip
    refine o_aload_n dX9_finds_12 rfl rfl (by rfl) ?_
    refine o_getC (q := 109) cl_X9_56 dX9_finds_13 rfl (by decide) (by rfl) (by rfl) ?_
    refine o_iload_n dX9_finds_16 rfl rfl (by rfl) ?_
    refine o_iald dX9_finds_17 rfl (by decide) (by rfl) (by rfl) (vp_in_nI (by omega) (by decide)) ?_
    refine o_iload_n dX9_finds_18 rfl rfl (by rfl) ?_
    refine o_icmp_eq (tgt := 25) dX9_finds_19 (by decide) rfl (fun (c19 : (mu 109 (nI a).toNatClampNeg) = lane) => ?_) (fun (c19 : ¬ (mu 109 (nI a).toNatClampNeg) = lane) => ?_)
    · skip
      obtain ⟨z, hz1, ez⟩ := hH a ha (by rw [nI_clamp (show a < 2 ^ 31 by omega)] at c6; exact Int32.not_lt.mpr c6)
      refine o_iload_n dX9_finds_25 rfl rfl (by rfl) ?_
      refine o_if_lt (tgt := 46) dX9_finds_26 (by decide) rfl (fun (c26 : i < 0) => ?_) (fun (c26 : ¬ i < 0) => ?_)
      · skip
        refine o_bipush (v := (-13)) dX9_finds_46 rfl (by decide) ?_
        refine o_goto (tgt := 52) dX9_finds_48 (by decide) ?_
        exact o_iret hq dX9_finds_52 ⟨rfl, (((if_neg (by rw [nI_clamp (show a < 2 ^ 31 by omega)] at c6; exact Int32.not_lt.mpr c6)).trans (if_neg (fun h9 => h9 (by rw [nI_clamp (show a < 2 ^ 31 by omega)] at c19; exact c19)))).trans (if_neg (fun h9 => ((fit_iff hz1 hn).mp (ez ▸ h9)).1 c26))).symm⟩
      · skip
        refine o_iload_n dX9_finds_29 rfl rfl (by rfl) ?_
        refine o_i2l dX9_finds_30 rfl ?_
        refine o_iload dX9_finds_31 rfl (by rfl) ?_
        refine o_i2l dX9_finds_33 rfl ?_
        refine o_ladd dX9_finds_34 rfl ?_
        refine o_aload_n dX9_finds_35 rfl rfl (by rfl) ?_
        refine o_getC (q := 110) cl_X9_59 dX9_finds_36 rfl (by decide) (by rfl) (by rfl) ?_
        refine o_iload_n dX9_finds_39 rfl rfl (by rfl) ?_
        refine o_iald dX9_finds_40 rfl (by decide) (by rfl) (by rfl) (vp_in_nI (by omega) (by decide)) ?_
        refine o_i2l dX9_finds_41 rfl ?_
        refine o_lcmp dX9_finds_42 rfl ?_
        refine o_if_le (tgt := 51) dX9_finds_43 (by decide) rfl (fun c43 => ?_) (fun c43 => ?_)
        · skip
          refine o_iconst (v := 0) dX9_finds_51 rfl (by decide) ?_
          exact o_iret hq dX9_finds_52 ⟨rfl, (((if_neg (by rw [nI_clamp (show a < 2 ^ 31 by omega)] at c6; exact Int32.not_lt.mpr c6)).trans (if_neg (fun h9 => h9 (by rw [nI_clamp (show a < 2 ^ 31 by omega)] at c19; exact c19)))).trans (if_pos (by rw [ez]; exact (fit_iff hz1 hn).mpr ⟨c26, by have h9 := j_le3.mp ((lg_cmp_le _ _).mp c43); rw [nI_clamp (show a < 2 ^ 31 by omega), ez, nI_toInt (by omega)] at h9; exact h9⟩))).symm⟩
        · skip
          refine o_bipush (v := (-13)) dX9_finds_46 rfl (by decide) ?_
          refine o_goto (tgt := 52) dX9_finds_48 (by decide) ?_
          exact o_iret hq dX9_finds_52 ⟨rfl, (((if_neg (by rw [nI_clamp (show a < 2 ^ 31 by omega)] at c6; exact Int32.not_lt.mpr c6)).trans (if_neg (fun h9 => h9 (by rw [nI_clamp (show a < 2 ^ 31 by omega)] at c19; exact c19)))).trans (if_neg (fun h9 => c43 ((lg_cmp_le _ _).mpr (j_le3.mpr (by rw [nI_clamp (show a < 2 ^ 31 by omega), ez, nI_toInt (by omega)]; exact ((fit_iff hz1 hn).mp (ez ▸ h9)).2)))))).symm⟩
    · skip
      refine o_bipush (v := (-12)) dX9_finds_22 rfl (by decide) ?_
      exact o_iret hq dX9_finds_24 ⟨rfl, ((if_neg (by rw [nI_clamp (show a < 2 ^ 31 by omega)] at c6; exact Int32.not_lt.mpr c6)).trans (if_pos (by rw [nI_clamp (show a < 2 ^ 31 by omega)] at c19; exact c19))).symm⟩
  · skip
    refine o_bipush (v := (-11)) dX9_finds_9 rfl (by decide) ?_
    exact o_iret hq dX9_finds_11 ⟨rfl, (if_pos (by rw [nI_clamp (show a < 2 ^ 31 by omega)] at c6; exact Int32.not_le.mp c6)).symm⟩
theorem ix24 {a j : Nat} (h : 24 * a + j < 2 ^ 31) : (24 * nI a + nI j).toNatClampNeg = 24 * a + j := ixl (a := 24) h
theorem ix24b {a j : Nat} (h : 24 * a + j < 96) : vp_in (24 * nI a + nI j) 96 := ixb (a := 24) h (by decide)
set_option maxHeartbeats 4000000 in
set_option maxRecDepth 100000 in
theorem c_X9_sheet (mu : Mu) (sh0 l n : Int32) : Con yX9_sheet cX9_sheet 5 (some .int) 2 [vC 94, vI sh0, vI l, vI n] mu (fun r mu2 => ((inB sh0 0 3 && inB l 0 2 && decide (n ≤ 24)) = false ∧ r = -1 ∧ mu2 = mu) ∨ ((inB sh0 0 3 && inB l 0 2 && decide (n ≤ 24)) = true ∧ n < 0 ∧ r = -14 ∧ mu2 = mu) ∨ ((inB sh0 0 3 && inB l 0 2 && decide (n ≤ 24)) = true ∧ ¬ n < 0 ∧ r = n ∧ ∃ a, a < 4 ∧ sh0 = nI a ∧ (∀ q, q ≠ 109 → q ≠ 110 → q ≠ 111 → mu2 q = mu q) ∧ mu2 109 = upd (mu 109) a l ∧ mu2 110 = upd (mu 110) a n ∧ (∀ j, (j < 24 * a ∨ 24 * a + 24 ≤ j) → mu2 111 j = mu 111 j) ∧ ∀ j, j < 24 → mu2 111 (24 * a + j) = 0)) := by
  refine con_of (own := RX9) (by decide) rfl (Nat.le_of_ble_eq_true rfl) (fun X g hq => ?_)
  show WA X g RX9 5 cX9_sheet 0 [(0, vC 94), (1, vI sh0), (2, vI l), (3, vI n)] [] mu
  refine o_iload_n dX9_sheet_0 rfl rfl (by rfl) ?_
  refine o_callS cs_X9_isSheet ct_X9_253 (c_X9_isSheet _ sh0) hq.2.2.2 (Nat.le_of_ble_eq_true rfl) dX9_sheet_1 rfl rfl rfl (Nat.le_of_ble_eq_true rfl) (fun r1 mu1 h1 => ?_)
  obtain ⟨em, h1⟩ := h1
  rw [em]
  refine o_if_eq (tgt := 20) dX9_sheet_4 (by decide) rfl (fun (c4 : r1 = 0) => ?_) (fun (c4 : ¬ r1 = 0) => ?_)
  · skip
    have b4 := (if10 h1).1 c4
    refine o_iconst (v := (-1)) dX9_sheet_20 rfl (by decide) ?_
    exact o_iret hq dX9_sheet_21 (Or.inl ⟨by simp [b4, c4], rfl, rfl⟩)
  · skip
    have b4 := (if10 h1).2 c4
    refine o_iload_n dX9_sheet_7 rfl rfl (by rfl) ?_
    refine o_callS cs_X9_isLane ct_X9_256 (c_X9_isLane _ l) hq.2.2.2 (Nat.le_of_ble_eq_true rfl) dX9_sheet_8 rfl rfl rfl (Nat.le_of_ble_eq_true rfl) (fun r2 mu2 h2 => ?_)
    obtain ⟨em, h2⟩ := h2
    rw [em]
    refine o_if_eq (tgt := 20) dX9_sheet_11 (by decide) rfl (fun (c11 : r2 = 0) => ?_) (fun (c11 : ¬ r2 = 0) => ?_)
    · skip
      have b11 := (if10 h2).1 c11
      refine o_iconst (v := (-1)) dX9_sheet_20 rfl (by decide) ?_
      exact o_iret hq dX9_sheet_21 (Or.inl ⟨by simp [b4, b11, c4, c11], rfl, rfl⟩)
    · skip
      have b11 := (if10 h2).2 c11
      obtain ⟨a, ea, -, ha⟩ := inB_nI (l := 0) (m := 3) (by decide) (by decide) b4
      refine o_iload_n dX9_sheet_14 rfl rfl (by rfl) ?_
      refine o_bipush (v := 24) dX9_sheet_15 rfl (by decide) ?_
      refine o_icmp_le (tgt := 22) dX9_sheet_17 (by decide) rfl (fun (c17 : n ≤ 24) => ?_) (fun (c17 : ¬ n ≤ 24) => ?_)
      · skip
        refine o_iload_n dX9_sheet_22 rfl rfl (by rfl) ?_
        refine o_if_ge (tgt := 29) dX9_sheet_23 (by decide) rfl (fun (c23 : 0 ≤ n) => ?_) (fun (c23 : ¬ 0 ≤ n) => ?_)
        · skip
          refine o_aload_n dX9_sheet_29 rfl rfl (by rfl) ?_
          refine o_getC (q := 109) cl_X9_56 dX9_sheet_30 rfl (by decide) (by rfl) (by rfl) ?_
          refine o_iload_n dX9_sheet_33 rfl rfl (by rfl) ?_
          refine o_iload_n dX9_sheet_34 rfl rfl (by rfl) ?_
          refine o_iast dX9_sheet_35 rfl (by decide) (by rfl) (by rfl) (by rw [ea]; exact vp_in_nI (by omega) (by decide)) ?_
          refine o_aload_n dX9_sheet_36 rfl rfl (by rfl) ?_
          refine o_getC (q := 110) cl_X9_59 dX9_sheet_37 rfl (by decide) (by rfl) (by rfl) ?_
          refine o_iload_n dX9_sheet_40 rfl rfl (by rfl) ?_
          refine o_iload_n dX9_sheet_41 rfl rfl (by rfl) ?_
          refine o_iast dX9_sheet_42 rfl (by decide) (by rfl) (by rfl) (by rw [ea]; exact vp_in_nI (by omega) (by decide)) ?_
          refine o_iconst (v := 0) dX9_sheet_43 rfl (by decide) ?_
          refine o_istore (L' := [(0, vC 94), (1, vI sh0), (2, vI l), (3, vI n), (4, vI 0)]) dX9_sheet_44 rfl (by decide) (by rfl) (by rfl) ?_
          have LP46 : ∀ (nLP46 : Nat) (k : Nat) (m : Mu) , (k ≤ 24) → ((∀ q, q ≠ 109 → q ≠ 110 → q ≠ 111 → m q = mu q) ∧ m 109 = upd (mu 109) a l ∧ m 110 = upd (mu 110) a n) → ((∀ j, (j < 24 * a ∨ 24 * a + k ≤ j) → m 111 j = mu 111 j) ∧ ∀ j, j < k → m 111 (24 * a + j) = 0) → (24 < k + nLP46) → WA X g RX9 5 cX9_sheet 46 [(0, vC 94), (1, vI sh0), (2, vI l), (3, vI n), (4, vI (nI k))] [] m := by
            intro nLP46
            induction nLP46 with
            | zero =>
              intro k m hk hF hZ hm
              exact absurd hm (by omega)
            | succ nLP46 ihLP46 =>
              intro k m hk hF hZ hm
              refine o_iload dX9_sheet_46 rfl (by rfl) ?_
              refine o_bipush (v := 24) dX9_sheet_48 rfl (by decide) ?_
              refine o_icmp_ge (tgt := 72) dX9_sheet_50 (by decide) rfl (fun (c50 : 24 ≤ (nI k)) => ?_) (fun (c50 : ¬ 24 ≤ (nI k)) => ?_)
              · skip
                have hk2 := nI_dec2 (b := 24) c50 (by omega) (by decide)
                have e2 : k = 24 := by omega
                refine o_iload_n dX9_sheet_72 rfl rfl (by rfl) ?_
                exact o_iret hq dX9_sheet_73 (Or.inr (Or.inr ⟨by simp [b4, b11, c17], Int32.not_lt.mpr c23, rfl, a, by omega, ea, hF.1, hF.2.1, hF.2.2, fun j hj => hZ.1 j (by omega), fun j hj => hZ.2 j (by omega)⟩))
              · skip
                have hk2 := nI_dec (b := 24) c50 (by omega) (by decide)
                refine o_aload_n dX9_sheet_53 rfl rfl (by rfl) ?_
                refine o_getC (q := 111) cl_X9_62 dX9_sheet_54 rfl (by decide) (by rfl) (by rfl) ?_
                refine o_bipush (v := 24) dX9_sheet_57 rfl (by decide) ?_
                refine o_iload_n dX9_sheet_59 rfl rfl (by rfl) ?_
                refine o_imul dX9_sheet_60 rfl ?_
                refine o_iload dX9_sheet_61 rfl (by rfl) ?_
                refine o_iadd dX9_sheet_63 rfl ?_
                refine o_iconst (v := 0) dX9_sheet_64 rfl (by decide) ?_
                refine o_iast dX9_sheet_65 rfl (by decide) (by rfl) (by rfl) (by rw [ea]; exact ix24b (by omega)) ?_
                refine o_iinc (v := nI (k + 1)) (L' := [(0, vC 94), (1, vI sh0), (2, vI l), (3, vI n), (4, vI (nI (k + 1)))]) dX9_sheet_66 rfl (by rfl) (by exact nI_1 k) (by decide) (by rfl) (by rfl) ?_
                refine o_goto (tgt := 46) dX9_sheet_69 (by decide) ?_
                exact ihLP46 (k + 1) _ (by omega) ⟨fun q q1 q2 q3 => by rw [upF_k q3]; exact hF.1 q q1 q2 q3, by rw [upF_k (by decide)]; exact hF.2.1, by rw [upF_k (by decide)]; exact hF.2.2⟩ (by rw [ea, ix24 (by omega)]; exact ⟨fun j hj => by rw [upF_i (by omega)]; exact hZ.1 j (by omega), fun j hj => by by_cases e : j = k; rw [e, upF_s]; rw [upF_i (by omega)]; exact hZ.2 j (by omega)⟩) (by omega)
          exact LP46 25 0 _ (by omega) ⟨fun q q1 q2 q3 => by rw [upF_k q2, upF_k q1], by rw [upF_k (by decide), ea, nI_clamp (by omega)]; exact upM_s, by rw [ea, nI_clamp (by omega)]; show upF (upF mu 109 a l) 110 a n 110 = _; exact upM_s⟩ ⟨fun j _ => by rw [upF_k (by decide), upF_k (by decide)], fun j h => by omega⟩ (by omega)
        · skip
          refine o_bipush (v := (-14)) dX9_sheet_26 rfl (by decide) ?_
          exact o_iret hq dX9_sheet_28 (Or.inr (Or.inl ⟨by simp [b4, b11, c4, c11, c17, c23], Int32.not_le.mp c23, rfl, rfl⟩))
      · skip
        refine o_iconst (v := (-1)) dX9_sheet_20 rfl (by decide) ?_
        exact o_iret hq dX9_sheet_21 (Or.inl ⟨by simp [b4, b11, c4, c11, c17], rfl, rfl⟩)
set_option maxHeartbeats 4000000 in
set_option maxRecDepth 100000 in
theorem c_X9_drop (mu : Mu) (sh0 : Int32) : Con yX9_drop cX9_drop 2 (some .int) 2 [vC 94, vI sh0] mu (fun r mu2 => (inB sh0 0 3 = false ∧ r = -1 ∧ mu2 = mu) ∨ (∃ a, a < 4 ∧ sh0 = nI a ∧ ((mu 109 a < 0 ∧ r = -11 ∧ mu2 = mu) ∨ (¬ mu 109 a < 0 ∧ r = mu 110 a ∧ mu2 = upF mu 109 a (-1))))) := by
  refine con_of (own := RX9) (by decide) rfl (Nat.le_of_ble_eq_true rfl) (fun X g hq => ?_)
  show WA X g RX9 2 cX9_drop 0 [(0, vC 94), (1, vI sh0)] [] mu
  refine o_iload_n dX9_drop_0 rfl rfl (by rfl) ?_
  refine o_callS cs_X9_isSheet ct_X9_253 (c_X9_isSheet _ sh0) hq.2.2.2 (Nat.le_of_ble_eq_true rfl) dX9_drop_1 rfl rfl rfl (Nat.le_of_ble_eq_true rfl) (fun r1 mu1 h1 => ?_)
  obtain ⟨em, h1⟩ := h1
  rw [em]
  refine o_if_ne (tgt := 9) dX9_drop_4 (by decide) rfl (fun (c4 : ¬ r1 = 0) => ?_) (fun (c4 : r1 = 0) => ?_)
  · skip
    have b4 := (if10 h1).2 c4
    obtain ⟨a, ea, -, ha⟩ := inB_nI (l := 0) (m := 3) (by decide) (by decide) b4
    refine o_aload_n dX9_drop_9 rfl rfl (by rfl) ?_
    refine o_getC (q := 109) cl_X9_56 dX9_drop_10 rfl (by decide) (by rfl) (by rfl) ?_
    refine o_iload_n dX9_drop_13 rfl rfl (by rfl) ?_
    refine o_iald dX9_drop_14 rfl (by decide) (by rfl) (by rfl) (by rw [ea]; exact vp_in_nI (by omega) (by decide)) ?_
    refine o_if_ge (tgt := 21) dX9_drop_15 (by decide) rfl (fun (c15 : 0 ≤ (mu 109 sh0.toNatClampNeg)) => ?_) (fun (c15 : ¬ 0 ≤ (mu 109 sh0.toNatClampNeg)) => ?_)
    · skip
      refine o_aload_n dX9_drop_21 rfl rfl (by rfl) ?_
      refine o_getC (q := 109) cl_X9_56 dX9_drop_22 rfl (by decide) (by rfl) (by rfl) ?_
      refine o_iload_n dX9_drop_25 rfl rfl (by rfl) ?_
      refine o_iconst (v := (-1)) dX9_drop_26 rfl (by decide) ?_
      refine o_iast dX9_drop_27 rfl (by decide) (by rfl) (by rfl) (by rw [ea]; exact vp_in_nI (by omega) (by decide)) ?_
      refine o_aload_n dX9_drop_28 rfl rfl (by rfl) ?_
      refine o_getC (q := 110) cl_X9_59 dX9_drop_29 rfl (by decide) (by rfl) (by rfl) ?_
      refine o_iload_n dX9_drop_32 rfl rfl (by rfl) ?_
      refine o_iald dX9_drop_33 rfl (by decide) (by rfl) (by rfl) (by rw [ea]; exact vp_in_nI (by omega) (by decide)) ?_
      exact o_iret hq dX9_drop_34 (Or.inr ⟨a, by omega, ea, Or.inr ⟨by rw [ea, nI_clamp (show a < 2 ^ 31 by omega)] at c15; exact Int32.not_lt.mpr c15, by rw [ea, nI_clamp (show a < 2 ^ 31 by omega), upF_k (by decide)], by rw [ea, nI_clamp (show a < 2 ^ 31 by omega)]⟩⟩)
    · skip
      refine o_bipush (v := (-11)) dX9_drop_18 rfl (by decide) ?_
      exact o_iret hq dX9_drop_20 (Or.inr ⟨a, by omega, ea, Or.inl ⟨by rw [ea, nI_clamp (show a < 2 ^ 31 by omega)] at c15; exact Int32.not_le.mp c15, rfl, rfl⟩⟩)
  · skip
    have b4 := (if10 h1).1 c4
    refine o_iconst (v := (-1)) dX9_drop_7 rfl (by decide) ?_
    exact o_iret hq dX9_drop_8 (Or.inl ⟨by simp [b4], rfl, rfl⟩)
set_option maxHeartbeats 4000000 in
set_option maxRecDepth 100000 in
theorem c_X9_item (mu : Mu) (hH : RHs mu) (sh0 l i v : Int32) : Con yX9_item cX9_item 6 (some .int) 2 [vC 94, vI sh0, vI l, vI i, vI v] mu (fun r mu2 => ((inB sh0 0 3 && inB l 0 2) = false ∧ r = -1 ∧ mu2 = mu) ∨ ((inB sh0 0 3 && inB l 0 2) = true ∧ ∃ a, a < 4 ∧ sh0 = nI a ∧ ((¬ refS mu a l i 1 = 0 ∧ r = refS mu a l i 1 ∧ mu2 = mu) ∨ (refS mu a l i 1 = 0 ∧ r = 1 ∧ ∃ I, i = nI I ∧ I < 24 ∧ mu2 = upF mu 111 (24 * a + I) (cutV l v))))) := by
  refine con_of (own := RX9) (by decide) rfl (Nat.le_of_ble_eq_true rfl) (fun X g hq => ?_)
  show WA X g RX9 6 cX9_item 0 [(0, vC 94), (1, vI sh0), (2, vI l), (3, vI i), (4, vI v)] [] mu
  refine o_iload_n dX9_item_0 rfl rfl (by rfl) ?_
  refine o_callS cs_X9_isSheet ct_X9_253 (c_X9_isSheet _ sh0) hq.2.2.2 (Nat.le_of_ble_eq_true rfl) dX9_item_1 rfl rfl rfl (Nat.le_of_ble_eq_true rfl) (fun r1 mu1 h1 => ?_)
  obtain ⟨em, h1⟩ := h1
  rw [em]
  refine o_if_eq (tgt := 14) dX9_item_4 (by decide) rfl (fun (c4 : r1 = 0) => ?_) (fun (c4 : ¬ r1 = 0) => ?_)
  · skip
    have b4 := (if10 h1).1 c4
    refine o_iconst (v := (-1)) dX9_item_14 rfl (by decide) ?_
    exact o_iret hq dX9_item_15 (Or.inl ⟨by simp [b4], rfl, rfl⟩)
  · skip
    have b4 := (if10 h1).2 c4
    refine o_iload_n dX9_item_7 rfl rfl (by rfl) ?_
    refine o_callS cs_X9_isLane ct_X9_256 (c_X9_isLane _ l) hq.2.2.2 (Nat.le_of_ble_eq_true rfl) dX9_item_8 rfl rfl rfl (Nat.le_of_ble_eq_true rfl) (fun r2 mu2 h2 => ?_)
    obtain ⟨em, h2⟩ := h2
    rw [em]
    refine o_if_ne (tgt := 16) dX9_item_11 (by decide) rfl (fun (c11 : ¬ r2 = 0) => ?_) (fun (c11 : r2 = 0) => ?_)
    · skip
      have b11 := (if10 h2).2 c11
      obtain ⟨a, ea, -, ha⟩ := inB_nI (l := 0) (m := 3) (by decide) (by decide) b4
      refine o_aload_n dX9_item_16 rfl rfl (by rfl) ?_
      refine o_iload_n dX9_item_17 rfl rfl (by rfl) ?_
      refine o_iload_n dX9_item_18 rfl rfl (by rfl) ?_
      refine o_iload_n dX9_item_19 rfl rfl (by rfl) ?_
      refine o_iconst (v := 1) dX9_item_20 rfl (by decide) ?_
      rw [ea]
      refine o_callV cs_X9_finds cv_X9_261 (c_X9_finds _ hH a (by omega) l i 1 (by decide)) hq.2.2.2 (Nat.le_of_ble_eq_true rfl) dX9_item_21 rfl (by decide) (by rfl) (by rfl) (by rfl) rfl rfl (Nat.le_of_ble_eq_true rfl) (fun rF mu3 hF => ?_)
      obtain ⟨em, hF⟩ := hF
      rw [em]
      subst hF
      refine o_istore (L' := [(0, vC 94), (1, vI (nI a)), (2, vI l), (3, vI i), (4, vI v), (5, vI (refS mu a l i 1))]) dX9_item_24 rfl (by decide) (by rfl) (by rfl) ?_
      refine o_iload dX9_item_26 rfl (by rfl) ?_
      refine o_if_ge (tgt := 34) dX9_item_28 (by decide) rfl (fun (c28 : 0 ≤ (refS mu a l i 1)) => ?_) (fun (c28 : ¬ 0 ≤ (refS mu a l i 1)) => ?_)
      · skip
        have hr0 : refS mu a l i 1 = 0 := (refS_or mu a l i 1).resolve_right (Int32.not_lt.mpr c28)
        obtain ⟨q1, q2, q3⟩ := refS_0 hr0
        obtain ⟨I, eI, hI⟩ := fitR hH (by omega) q1 (N := 1) (by decide) q3
        refine o_aload_n dX9_item_34 rfl rfl (by rfl) ?_
        refine o_getC (q := 111) cl_X9_62 dX9_item_35 rfl (by decide) (by rfl) (by rfl) ?_
        refine o_bipush (v := 24) dX9_item_38 rfl (by decide) ?_
        refine o_iload_n dX9_item_40 rfl rfl (by rfl) ?_
        refine o_imul dX9_item_41 rfl ?_
        refine o_iload_n dX9_item_42 rfl rfl (by rfl) ?_
        refine o_iadd dX9_item_43 rfl ?_
        refine o_iload_n dX9_item_44 rfl rfl (by rfl) ?_
        refine o_iload dX9_item_45 rfl (by rfl) ?_
        refine o_callS cs_X9_cast ct_X9_277 (c_X9_cast _ l v) hq.2.2.2 (Nat.le_of_ble_eq_true rfl) dX9_item_47 rfl rfl rfl (Nat.le_of_ble_eq_true rfl) (fun rC mu4 hC => ?_)
        obtain ⟨em, hC⟩ := hC
        rw [em]
        subst hC
        refine o_iast dX9_item_50 rfl (by decide) (by rfl) (by rfl) (by rw [eI]; exact ix24b (by omega)) ?_
        refine o_iconst (v := 1) dX9_item_51 rfl (by decide) ?_
        exact o_iret hq dX9_item_52 (Or.inr ⟨by simp [b4, b11], a, by omega, ea, Or.inr ⟨hr0, rfl, I, eI, by omega, by rw [eI, ix24 (by omega)]⟩⟩)
      · skip
        refine o_iload dX9_item_31 rfl (by rfl) ?_
        exact o_iret hq dX9_item_33 (Or.inr ⟨by simp [b4, b11], a, by omega, ea, Or.inl ⟨fun h9 => c28 (by rw [h9]; decide), rfl, rfl⟩⟩)
    · skip
      have b11 := (if10 h2).1 c11
      refine o_iconst (v := (-1)) dX9_item_14 rfl (by decide) ?_
      exact o_iret hq dX9_item_15 (Or.inl ⟨by simp [b4, b11], rfl, rfl⟩)
