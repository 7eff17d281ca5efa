/-! ===== Plan.timesOf, most ===== -/
def tmN (mu : Mu) (z i left : Nat) : Nat := dwn (dwP (tS mu i) (tG mu i) left (dpB (tS mu) (tG mu) (tM mu) z (z - i) left) (dpB (tS mu) (tG mu) (tM mu) z (z - (i + 1)))) (tM mu i)
def tmS (mu : Mu) (z k : Nat) : Nat → Nat × Nat
  | 0 => (0, k)
  | i + 1 => (tmN mu z i (tmS mu z k i).2, (tmS mu z k i).2 - tmN mu z i (tmS mu z k i).2 * tS mu i)
theorem dwn_ok (s g k b : Nat) (B : Nat → Nat) : ∀ n, dwn (dwP s g k b B) n * s ≤ k
  | 0 => by show 0 * s ≤ k; omega
  | n + 1 => by
    have ih := dwn_ok s g k b B n
    unfold dwn
    split
    · rename_i h
      exact (of_decide_eq_true h).1
    · exact ih
theorem tmS_le (mu : Mu) (z k : Nat) : ∀ i, (tmS mu z k i).2 ≤ k
  | 0 => Nat.le_refl _
  | i + 1 => by
    have := tmS_le mu z k i
    show (tmS mu z k i).2 - _ ≤ k
    omega
set_option maxHeartbeats 4000000 in
set_option maxRecDepth 100000 in
theorem c_X2_mostIn (mu0 mu : Mu) (z k : Nat) (hP : PLN mu0 mu z k 0) (hk : k ≤ 180) : Con yX2_mostIn cX2_mostIn 2 (some .int) 0 [vC 59, vI (nI k)] mu (fun r mu2 => mu2 = mu ∧ r = nI (dpB (tS mu0) (tG mu0) (tM mu0) z z k)) := by
  refine con_of (own := RX2) (by decide) rfl (Nat.le_of_ble_eq_true rfl) (fun X g hq => ?_)
  show WA X g RX2 2 cX2_mostIn 0 [(0, vC 59), (1, vI (nI k))] [] mu
  refine o_aload_n dX2_mostIn_0 rfl rfl (by rfl) ?_
  refine o_getC (q := 60) cl_X2_11 dX2_mostIn_1 rfl (by decide) (by rfl) (by rfl) ?_
  refine o_iconst (v := 0) dX2_mostIn_4 rfl (by decide) ?_
  refine o_aald dX2_mostIn_5 rfl (by decide) (by rfl) (by rfl) (vp_in_nI (n := 0) (by decide) (by decide)) ?_
  refine o_iload_n dX2_mostIn_6 rfl rfl (by rfl) ?_
  refine o_iald dX2_mostIn_7 rfl (by decide) (by rfl) (by rfl) (vp_in_nI (by omega) (by decide)) ?_
  exact o_iret hq dX2_mostIn_8 ⟨rfl, by rw [nI_clamp (by omega)]; exact hP.2 0 (by omega) k (Nat.le_refl k)⟩
set_option maxHeartbeats 4000000 in
set_option maxRecDepth 100000 in
theorem c_X2_timesOf (mu0 mu : Mu) (hS : SOK mu0 1) (z k T : Nat) (ez : mu0 17 2 = nI z) (hz : z ≤ 8) (hT : T < z) (hk : k ≤ 180) (hP : PLN mu0 mu z k 0) : Con yX2_timesOf cX2_timesOf 7 (some .int) 3 [vC 59, vC 17, vI (nI k), vI (nI T)] mu (fun r mu2 => mu2 = mu ∧ r = nI (tmS mu0 z k (T + 1)).1) := by
  refine con_of (own := RX2) (by decide) rfl (Nat.le_of_ble_eq_true rfl) (fun X g hq => ?_)
  show WA X g RX2 7 cX2_timesOf 0 [(0, vC 59), (1, vC 17), (2, vI (nI k)), (3, vI (nI T))] [] mu
  refine o_iload_n dX2_timesOf_0 rfl rfl (by rfl) ?_
  refine o_istore (L' := [(0, vC 59), (1, vC 17), (2, vI (nI k)), (3, vI (nI T)), (4, vI (nI k))]) dX2_timesOf_1 rfl (by decide) (by rfl) (by rfl) ?_
  refine o_iconst (v := 0) dX2_timesOf_3 rfl (by decide) ?_
  refine o_istore (L' := [(0, vC 59), (1, vC 17), (2, vI (nI k)), (3, vI (nI T)), (4, vI (nI k)), (5, vI 0)]) dX2_timesOf_4 rfl (by decide) (by rfl) (by rfl) ?_
  refine o_iconst (v := 0) dX2_timesOf_6 rfl (by decide) ?_
  refine o_istore (L' := [(0, vC 59), (1, vC 17), (2, vI (nI k)), (3, vI (nI T)), (4, vI (nI k)), (5, vI 0), (6, vI 0)]) dX2_timesOf_7 rfl (by decide) (by rfl) (by rfl) ?_
  have LP9 : ∀ (nLP9 : Nat) (i : Nat) , (i ≤ T + 1) → (T + 1 < i + nLP9) → WA X g RX2 7 cX2_timesOf 9 [(0, vC 59), (1, vC 17), (2, vI (nI k)), (3, vI (nI T)), (4, vI (nI (tmS mu0 z k i).2)), (5, vI (nI (tmS mu0 z k i).1)), (6, vI (nI i))] [] mu := by
    intro nLP9
    induction nLP9 with
    | zero =>
      intro i hi hm
      exact absurd hm (by omega)
    | succ nLP9 ihLP9 =>
      intro i hi hm
      refine o_iload dX2_timesOf_9 rfl (by rfl) ?_
      refine o_iload_n dX2_timesOf_11 rfl rfl (by rfl) ?_
      refine o_icmp_gt (tgt := 47) dX2_timesOf_12 (by decide) rfl (fun (c12 : (nI T) < (nI i)) => ?_) (fun (c12 : ¬ (nI T) < (nI i)) => ?_)
      · skip
        have hlt := (nI_ltI (by omega) (by omega)).mp c12
        have e2 : i = T + 1 := by omega
        refine o_iload dX2_timesOf_47 rfl (by rfl) ?_
        exact o_iret hq dX2_timesOf_49 ⟨rfl, by rw [e2]⟩
      · skip
        have hle : i ≤ T := Nat.le_of_not_lt (fun q => c12 (nI_lt q (by omega)))
        refine o_aload_n dX2_timesOf_15 rfl rfl (by rfl) ?_
        refine o_aload_n dX2_timesOf_16 rfl rfl (by rfl) ?_
        refine o_iload dX2_timesOf_17 rfl (by rfl) ?_
        refine o_iload dX2_timesOf_19 rfl (by rfl) ?_
        refine o_callV cs_X2_mostTimes cv_X2_26 (c_X2_mostTimes mu (hS.cg (fun q a b => hP.1 q (by omega))) z i (tmS mu0 z k i).2 114048 (dpB (tS mu0) (tG mu0) (tM mu0) z (z - i) (tmS mu0 z k i).2) (by rw [hP.1 17 (by omega)]; exact ez) hz (by omega) (by have := tmS_le mu0 z k i; omega) (dpB (tS mu0) (tG mu0) (tM mu0) z (z - (i + 1))) (fun j hj => by have h := hP.2 (i + 1) (by omega) j (by have := tmS_le mu0 z k i; omega); rw [Nat.zero_add] at h; exact h) (fun j => Nat.le_trans (dpB_le (fun q hq => (trk hS ez hz hq).2.1.2) (fun q hq => (trk hS ez hz hq).2.2.2.2) (z - (i + 1)) (by omega) j) (by omega)) (by decide) (by have h := hP.2 i (by omega) (tmS mu0 z k i).2 (tmS_le mu0 z k i); rw [Nat.zero_add] at h; exact h) (Nat.le_trans (dpB_le (fun q hq => (trk hS ez hz hq).2.1.2) (fun q hq => (trk hS ez hz hq).2.2.2.2) (z - i) (by omega) _) (by omega))) hq.2.2.2 (Nat.le_of_ble_eq_true rfl) dX2_timesOf_21 rfl (by decide) (by rfl) (by rfl) (by rfl) rfl rfl (Nat.le_of_ble_eq_true rfl) (fun rT mT hTT => ?_)
        obtain ⟨em, hTT⟩ := hTT
        rw [em]
        rw [(tricks_cg (fun q hq => hP.1 q (by omega)) i (by omega)).1, (tricks_cg (fun q hq => hP.1 q (by omega)) i (by omega)).2.1, (tricks_cg (fun q hq => hP.1 q (by omega)) i (by omega)).2.2] at hTT
        have hTT : rT = nI (tmN mu0 z i (tmS mu0 z k i).2) := hTT
        subst hTT
        refine o_istore (L' := [(0, vC 59), (1, vC 17), (2, vI (nI k)), (3, vI (nI T)), (4, vI (nI (tmS mu0 z k i).2)), (5, vI (nI (tmN mu0 z i (tmS mu0 z k i).2))), (6, vI (nI i))]) dX2_timesOf_24 rfl (by decide) (by rfl) (by rfl) ?_
        refine o_iload dX2_timesOf_26 rfl (by rfl) ?_
        refine o_iload dX2_timesOf_28 rfl (by rfl) ?_
        refine o_aload_n dX2_timesOf_30 rfl rfl (by rfl) ?_
        refine o_iload dX2_timesOf_31 rfl (by rfl) ?_
        refine o_iconst (v := 1) dX2_timesOf_33 rfl (by decide) ?_
        refine o_callV cs_X6_get cv_X2_29 (c_X6_get 17 8 4 tab17 _ (TOK.cg (hP.1 17 (by omega)) hS.t17) (nI i) 1) hq.2.2.2 (Nat.le_of_ble_eq_true rfl) dX2_timesOf_34 rfl (by decide) (by rfl) (by rfl) (by rfl) rfl rfl (Nat.le_of_ble_eq_true rfl) (fun rG mG hG => ?_)
        obtain ⟨em, hG⟩ := hG
        rw [em]
        have hG := (hG.trans ((tget_cg tab17 hS.t17 (fun q a b => hP.1 q (by omega))).trans (tg17 hS ez hz (by omega) 1 (by decide)))).trans (trk hS ez hz (show i < z by omega)).1.1
        subst hG
        refine o_imul dX2_timesOf_37 rfl ?_
        refine o_isub dX2_timesOf_38 rfl ?_
        rw [pk_mul, pk_sub (show tmN mu0 z i (tmS mu0 z k i).2 * tS mu0 i ≤ (tmS mu0 z k i).2 from dwn_ok _ _ _ _ _ _)]
        refine o_istore (L' := [(0, vC 59), (1, vC 17), (2, vI (nI k)), (3, vI (nI T)), (4, vI (nI ((tmS mu0 z k i).2 - tmN mu0 z i (tmS mu0 z k i).2 * tS mu0 i))), (5, vI (nI (tmN mu0 z i (tmS mu0 z k i).2))), (6, vI (nI i))]) dX2_timesOf_39 rfl (by decide) (by rfl) (by rfl) ?_
        refine o_iinc (v := nI (i + 1)) (L' := [(0, vC 59), (1, vC 17), (2, vI (nI k)), (3, vI (nI T)), (4, vI (nI ((tmS mu0 z k i).2 - tmN mu0 z i (tmS mu0 z k i).2 * tS mu0 i))), (5, vI (nI (tmN mu0 z i (tmS mu0 z k i).2))), (6, vI (nI (i + 1)))]) dX2_timesOf_41 rfl (by rfl) (by exact nI_1 i) (by decide) (by rfl) (by rfl) ?_
        refine o_goto (tgt := 9) dX2_timesOf_44 (by decide) ?_
        exact ihLP9 (i + 1) (by omega) (by omega)
  exact LP9 (T + 2) 0 (by omega) (by omega)
set_option maxHeartbeats 4000000 in
set_option maxRecDepth 100000 in
theorem c_X8_most (mu : Mu) (hS : SOK mu 1) (time tr : Int32) : Con yX8_most cX8_most 3 (some .int) 4 [vC 0, vI time, vI tr] mu (fun r mu2 => ((inB time 0 180 && (decide (tr = -1) || hasB mu 17 tr)) = false ∧ r = -1 ∧ mu2 = mu) ∨ ((inB time 0 180 && (decide (tr = -1) || hasB mu 17 tr)) = true ∧ (∀ q, (q < 61 ∨ 70 ≤ q) → mu2 q = mu q) ∧ ∃ k z, time = nI k ∧ k ≤ 180 ∧ mu 17 2 = nI z ∧ z ≤ 8 ∧ ((tr = -1 ∧ r = nI (dpB (tS mu) (tG mu) (tM mu) z z k)) ∨ (¬ tr = -1 ∧ ∃ T, tr = nI T ∧ T < z ∧ r = nI (tmS mu z k (T + 1)).1)))) := by
  refine con_of (own := RX8) (by decide) rfl (Nat.le_of_ble_eq_true rfl) (fun X g hq => ?_)
  show WA X g RX8 3 cX8_most 0 [(0, vC 0), (1, vI time), (2, vI tr)] [] mu
  refine o_iload_n dX8_most_0 rfl rfl (by rfl) ?_
  refine o_iconst (v := 0) dX8_most_1 rfl (by decide) ?_
  refine o_sipush (v := 180) dX8_most_2 rfl (by decide) ?_
  refine o_callS cs_X8_isIn ct_X8_60 (c_isIn _ time 0 180) hq.2.2.2 (Nat.le_of_ble_eq_true rfl) dX8_most_5 rfl rfl rfl (Nat.le_of_ble_eq_true rfl) (fun r1 mu1 h1 => ?_)
  obtain ⟨em, h1⟩ := h1
  rw [em]
  refine o_if_eq (tgt := 30) dX8_most_8 (by decide) rfl (fun (c8 : r1 = 0) => ?_) (fun (c8 : ¬ r1 = 0) => ?_)
  · skip
    have b8 := (if10 h1).1 c8
    refine o_iconst (v := (-1)) dX8_most_30 rfl (by decide) ?_
    exact o_iret hq dX8_most_31 (Or.inl ⟨by simp [b8, c8], rfl, rfl⟩)
  · skip
    have b8 := (if10 h1).2 c8
    refine o_iload_n dX8_most_11 rfl rfl (by rfl) ?_
    refine o_iconst (v := (-1)) dX8_most_12 rfl (by decide) ?_
    refine o_icmp_eq (tgt := 32) dX8_most_13 (by decide) rfl (fun (c13 : tr = ((-1))) => ?_) (fun (c13 : ¬ tr = ((-1))) => ?_)
    · skip
      obtain ⟨k, ek, -, hk⟩ := inB_nI (l := 0) (m := 180) (by decide) (by decide) b8
      subst ek
      obtain ⟨-, z, hz, ez⟩ := hS.t17
      refine o_aload_n dX8_most_32 rfl rfl (by rfl) ?_
      refine o_getC (q := 59) cl_X8_42 dX8_most_33 rfl (by decide) (by rfl) (by rfl) ?_
      refine o_aload_n dX8_most_36 rfl rfl (by rfl) ?_
      refine o_getC (q := 1) cl_X8_10 dX8_most_37 rfl (by decide) (by rfl) (by rfl) ?_
      refine o_getC (q := 17) cl_X8_186 dX8_most_40 rfl (by decide) (by rfl) (by rfl) ?_
      refine o_iload_n dX8_most_43 rfl rfl (by rfl) ?_
      refine o_callVV cs_X2_weigh cv_X8_241 (c_X2_weigh _ hS z k ez hz (by omega)) hq.2.2.2 (Nat.le_of_ble_eq_true rfl) dX8_most_44 rfl (by decide) (by rfl) (by rfl) (by rfl) rfl rfl (Nat.le_of_ble_eq_true rfl) (fun mW hW => ?_)
      refine o_iload_n dX8_most_47 rfl rfl (by rfl) ?_
      refine o_iconst (v := (-1)) dX8_most_48 rfl (by decide) ?_
      refine o_icmp_ne (tgt := 63) dX8_most_49 (by decide) rfl (fun (c49 : ¬ tr = ((-1))) => ?_) (fun (c49 : tr = ((-1))) => ?_)
      · skip
        exact absurd c13 c49
      · skip
        refine o_aload_n dX8_most_52 rfl rfl (by rfl) ?_
        refine o_getC (q := 59) cl_X8_42 dX8_most_53 rfl (by decide) (by rfl) (by rfl) ?_
        refine o_iload_n dX8_most_56 rfl rfl (by rfl) ?_
        refine o_callV cs_X2_mostIn cv_X8_245 (c_X2_mostIn mu mW z k hW (by omega)) hq.2.2.2 (Nat.le_of_ble_eq_true rfl) dX8_most_57 rfl (by decide) (by rfl) (by rfl) (by rfl) rfl rfl (Nat.le_of_ble_eq_true rfl) (fun rI mI hI => ?_)
        obtain ⟨em, hI⟩ := hI
        rw [em]
        refine o_goto (tgt := 79) dX8_most_60 (by decide) ?_
        exact o_iret hq dX8_most_79 (Or.inr ⟨by simp [b8, c8, c13, c49], hW.1, k, z, rfl, by omega, ez, hz, Or.inl ⟨c49, hI⟩⟩)
    · skip
      refine o_aload_n dX8_most_16 rfl rfl (by rfl) ?_
      refine o_getC (q := 1) cl_X8_10 dX8_most_17 rfl (by decide) (by rfl) (by rfl) ?_
      refine o_getC (q := 17) cl_X8_186 dX8_most_20 rfl (by decide) (by rfl) (by rfl) ?_
      refine o_iload_n dX8_most_23 rfl rfl (by rfl) ?_
      refine o_callV cs_X6_has cv_X8_88 (c_has 17 8 4 tab17 _ tr) hq.2.2.2 (Nat.le_of_ble_eq_true rfl) dX8_most_24 rfl (by decide) (by rfl) (by rfl) (by rfl) rfl rfl (Nat.le_of_ble_eq_true rfl) (fun r4 mu4 h4 => ?_)
      obtain ⟨em, h4⟩ := h4
      rw [em]
      refine o_if_ne (tgt := 32) dX8_most_27 (by decide) rfl (fun (c27 : ¬ r4 = 0) => ?_) (fun (c27 : r4 = 0) => ?_)
      · skip
        have b27 := (if10 h4).2 c27
        obtain ⟨k, ek, -, hk⟩ := inB_nI (l := 0) (m := 180) (by decide) (by decide) b8
        subst ek
        obtain ⟨-, z, hz, ez⟩ := hS.t17
        refine o_aload_n dX8_most_32 rfl rfl (by rfl) ?_
        refine o_getC (q := 59) cl_X8_42 dX8_most_33 rfl (by decide) (by rfl) (by rfl) ?_
        refine o_aload_n dX8_most_36 rfl rfl (by rfl) ?_
        refine o_getC (q := 1) cl_X8_10 dX8_most_37 rfl (by decide) (by rfl) (by rfl) ?_
        refine o_getC (q := 17) cl_X8_186 dX8_most_40 rfl (by decide) (by rfl) (by rfl) ?_
        refine o_iload_n dX8_most_43 rfl rfl (by rfl) ?_
        refine o_callVV cs_X2_weigh cv_X8_241 (c_X2_weigh _ hS z k ez hz (by omega)) hq.2.2.2 (Nat.le_of_ble_eq_true rfl) dX8_most_44 rfl (by decide) (by rfl) (by rfl) (by rfl) rfl rfl (Nat.le_of_ble_eq_true rfl) (fun mW hW => ?_)
        refine o_iload_n dX8_most_47 rfl rfl (by rfl) ?_
        refine o_iconst (v := (-1)) dX8_most_48 rfl (by decide) ?_
        refine o_icmp_ne (tgt := 63) dX8_most_49 (by decide) rfl (fun (c49 : ¬ tr = ((-1))) => ?_) (fun (c49 : tr = ((-1))) => ?_)
        · skip
          have hb17 : hasB mu 17 tr = true := b27
          obtain ⟨T, eT, hT⟩ := hasB_nI ez (by omega) hb17
          subst eT
          refine o_aload_n dX8_most_63 rfl rfl (by rfl) ?_
          refine o_getC (q := 59) cl_X8_42 dX8_most_64 rfl (by decide) (by rfl) (by rfl) ?_
          refine o_aload_n dX8_most_67 rfl rfl (by rfl) ?_
          refine o_getC (q := 1) cl_X8_10 dX8_most_68 rfl (by decide) (by rfl) (by rfl) ?_
          refine o_getC (q := 17) cl_X8_186 dX8_most_71 rfl (by decide) (by rfl) (by rfl) ?_
          refine o_iload_n dX8_most_74 rfl rfl (by rfl) ?_
          refine o_iload_n dX8_most_75 rfl rfl (by rfl) ?_
          refine o_callV cs_X2_timesOf cv_X8_248 (c_X2_timesOf mu mW hS z k T ez hz hT (by omega) hW) hq.2.2.2 (Nat.le_of_ble_eq_true rfl) dX8_most_76 rfl (by decide) (by rfl) (by rfl) (by rfl) rfl rfl (Nat.le_of_ble_eq_true rfl) (fun rI mI hI => ?_)
          obtain ⟨em, hI⟩ := hI
          rw [em]
          exact o_iret hq dX8_most_79 (Or.inr ⟨by simp [b8, b27, c8, c13, c27, c49], hW.1, k, z, rfl, by omega, ez, hz, Or.inr ⟨c49, T, rfl, hT, hI⟩⟩)
        · skip
          exact absurd c49 c13
      · skip
        have b27 := (if10 h4).1 c27
        refine o_iconst (v := (-1)) dX8_most_30 rfl (by decide) ?_
        exact o_iret hq dX8_most_31 (Or.inl ⟨by simp [b8, b27, c8, c13, c27], rfl, rfl⟩)
