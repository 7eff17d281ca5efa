/-! ===== the reference: signed digits, numbers, clauses ===== -/
theorem pSg_no {T : Vc} {n : Nat} {s : PSt} (h : s.2 = false) : pSg T n s = (0, s) := by
  unfold pSg
  rw [pTk_no h]
  simp only [pTk_no h]
  obtain ⟨a, b⟩ := s
  cases h
  rfl
theorem pSg_m {T : Vc} {n : Nat} {s : PSt} (h : (pTk T n 45 s).1 = true) : pSg T n s = (-(pDg T n (pTk T n 45 s).2).1, (pDg T n (pTk T n 45 s).2).2) := by
  unfold pSg
  rw [if_pos h]
theorem pSg_p {T : Vc} {n : Nat} {s : PSt} (h : ¬ (pTk T n 45 s).1 = true) (h2 : (pTk T n 43 (pTk T n 45 s).2).1 = true) : pSg T n s = pDg T n (pTk T n 43 (pTk T n 45 s).2).2 := by
  unfold pSg
  rw [if_neg h, if_pos h2]
theorem pSg_n {T : Vc} {n : Nat} {s : PSt} (h : ¬ (pTk T n 45 s).1 = true) (h2 : ¬ (pTk T n 43 (pTk T n 45 s).2).1 = true) : pSg T n s = (0, ((pTk T n 43 (pTk T n 45 s).2).2.1, false)) := by
  unfold pSg
  rw [if_neg h, if_neg h2]
theorem frW.t {a b : Mu} (h : frW a b) : b 99 = a 99 := h.1 99 (by decide)
theorem PSR.set1 {m : Mu} {n : Nat} {s : PSt} {b' : Bool} {x : Int32} (h : PSR m n s) (hx : x = if b' = true then 0 else 1) : PSR (upF m 94 10 x) n (s.1, b') := by
  obtain ⟨h1, h2, h3, h4, h5⟩ := h
  exact ⟨by rw [upF_i (by decide)]; exact h1, h2, h3, by rw [upF_i (by decide)]; exact h4, by rw [upF_s]; exact hx⟩
set_option maxHeartbeats 4000000 in
set_option maxRecDepth 100000 in
theorem c_X9_signed (mu : Mu) (n : Nat) (s : PSt) (hP : PSR mu n s) : Con yX9_signed cX9_signed 3 (some .int) 2 [vC 94] mu (fun r mu2 => r = (pSg (mu 99) n s).1 ∧ frW mu mu2 ∧ PSR mu2 n (pSg (mu 99) n s).2) := by
  refine con_of (own := RX9) (by decide) rfl (Nat.le_of_ble_eq_true rfl) (fun X g hq => ?_)
  show WA X g RX9 3 cX9_signed 0 [(0, vC 94)] [] mu
  refine o_aload_n dX9_signed_0 rfl rfl (by rfl) ?_
  refine o_bipush (v := 45) dX9_signed_1 rfl (by decide) ?_
  refine o_callV cs_X9_has cv_X9_133 (c_X9_has mu n s hP 45 (by decide) (by decide)) hq.2.2.2 (Nat.le_of_ble_eq_true rfl) dX9_signed_3 rfl (by decide) (by rfl) (by rfl) (by rfl) rfl rfl (Nat.le_of_ble_eq_true rfl) (fun rT1 mT1 hT1 => ?_)
  obtain ⟨eT1, fT1, pT1⟩ := hT1
  refine o_istore_n (L' := [(0, vC 94), (1, vI rT1)]) dX9_signed_6 rfl rfl (by decide) (by rfl) (by rfl) ?_
  refine o_aload_n dX9_signed_7 rfl rfl (by rfl) ?_
  refine o_aload_n dX9_signed_8 rfl rfl (by rfl) ?_
  refine o_getI cl_X9_121 dX9_signed_9 rfl (by decide) (by rfl) (by rfl) ?_
  refine o_if_ne (tgt := 28) dX9_signed_12 (by decide) rfl (fun (c12 : ¬ (mT1 94 10) = 0) => ?_) (fun (c12 : (mT1 94 10) = 0) => ?_)
  · skip
    have hnok : s.2 = false := pTk_st.symm.trans (pT1.no c12)
    refine o_iconst (v := 1) dX9_signed_28 rfl (by decide) ?_
    refine o_goto (tgt := 33) dX9_signed_29 (by decide) ?_
    refine o_put cl_X9_121 cp_X9_10 dX9_signed_33 rfl (by decide) (by rfl) (by rfl) (fitZ (Or.inr rfl)) ?_
    refine o_aload_n dX9_signed_36 rfl rfl (by rfl) ?_
    have hS9 : PSR (upF mT1 94 10 1) n (s.1, false) := by have h9 := pT1; rw [pTk_no hnok] at h9; exact h9.set1 rfl
    have hF9 : frW mu (upF mT1 94 10 1) := fT1.u10
    refine o_callV cs_X9_digit cv_X9_136 (c_X9_digit _ n _ hS9) hq.2.2.2 (Nat.le_of_ble_eq_true rfl) dX9_signed_37 rfl (by decide) (by rfl) (by rfl) (by rfl) rfl rfl (Nat.le_of_ble_eq_true rfl) (fun rD mD hD => ?_)
    rw [hF9.t] at hD
    obtain ⟨d1, d2, d3⟩ := hD
    refine o_istore_n (L' := [(0, vC 94), (1, vI rT1), (2, vI rD)]) dX9_signed_40 rfl rfl (by decide) (by rfl) (by rfl) ?_
    refine o_iload_n dX9_signed_41 rfl rfl (by rfl) ?_
    refine o_if_eq (tgt := 50) dX9_signed_42 (by decide) rfl (fun (c42 : rT1 = 0) => ?_) (fun (c42 : ¬ rT1 = 0) => ?_)
    · skip
      have b42 := (if10 eT1).1 c42
      refine o_iload_n dX9_signed_50 rfl rfl (by rfl) ?_
      exact o_iret hq dX9_signed_51 ⟨by rw [pSg_no hnok, d1, pDg_no rfl], hF9.tr d2, by rw [pSg_no hnok]; rw [pDg_no rfl] at d3; rw [← hnok] at d3; exact d3⟩
    · skip
      have b42 := (if10 eT1).2 c42
      exact absurd b42 (by rw [pTk_no hnok]; exact Bool.false_ne_true)
  · skip
    have hok : s.2 = true := pTk_st.symm.trans (pT1.ok c12)
    refine o_iload_n dX9_signed_15 rfl rfl (by rfl) ?_
    refine o_if_ne (tgt := 32) dX9_signed_16 (by decide) rfl (fun (c16 : ¬ rT1 = 0) => ?_) (fun (c16 : rT1 = 0) => ?_)
    · skip
      have b16 := (if10 eT1).2 c16
      refine o_iconst (v := 0) dX9_signed_32 rfl (by decide) ?_
      refine o_put cl_X9_121 cp_X9_10 dX9_signed_33 rfl (by decide) (by rfl) (by rfl) (fitZ (Or.inl rfl)) ?_
      refine o_aload_n dX9_signed_36 rfl rfl (by rfl) ?_
      have hS9 : PSR (upF mT1 94 10 0) n (pTk (mu 99) n 45 s).2 := by have h9 := pT1.set1 (b' := true) (x := 0) rfl; have e9 : (pTk (mu 99) n 45 s).2.2 = true := pTk_st.trans (pTk_ok b16); rw [show ((pTk (mu 99) n 45 s).2.1, true) = (pTk (mu 99) n 45 s).2 from by rw [← e9]] at h9; exact h9
      have hF9 : frW mu (upF mT1 94 10 0) := fT1.u10
      refine o_callV cs_X9_digit cv_X9_136 (c_X9_digit _ n _ hS9) hq.2.2.2 (Nat.le_of_ble_eq_true rfl) dX9_signed_37 rfl (by decide) (by rfl) (by rfl) (by rfl) rfl rfl (Nat.le_of_ble_eq_true rfl) (fun rD mD hD => ?_)
      rw [hF9.t] at hD
      obtain ⟨d1, d2, d3⟩ := hD
      refine o_istore_n (L' := [(0, vC 94), (1, vI rT1), (2, vI rD)]) dX9_signed_40 rfl rfl (by decide) (by rfl) (by rfl) ?_
      refine o_iload_n dX9_signed_41 rfl rfl (by rfl) ?_
      refine o_if_eq (tgt := 50) dX9_signed_42 (by decide) rfl (fun (c42 : rT1 = 0) => ?_) (fun (c42 : ¬ rT1 = 0) => ?_)
      · skip
        have b42 := (if10 eT1).1 c42
        exact absurd b16 b42
      · skip
        have b42 := (if10 eT1).2 c42
        refine o_iload_n dX9_signed_45 rfl rfl (by rfl) ?_
        refine o_ineg dX9_signed_46 rfl ?_
        refine o_goto (tgt := 51) dX9_signed_47 (by decide) ?_
        exact o_iret hq dX9_signed_51 ⟨by rw [pSg_m b16, d1], hF9.tr d2, by rw [pSg_m b16]; exact d3⟩
    · skip
      have b16 := (if10 eT1).1 c16
      refine o_aload_n dX9_signed_19 rfl rfl (by rfl) ?_
      refine o_bipush (v := 43) dX9_signed_20 rfl (by decide) ?_
      refine o_callV cs_X9_has cv_X9_133 (c_X9_has mT1 n _ pT1 43 (by decide) (by decide)) hq.2.2.2 (Nat.le_of_ble_eq_true rfl) dX9_signed_22 rfl (by decide) (by rfl) (by rfl) (by rfl) rfl rfl (Nat.le_of_ble_eq_true rfl) (fun rT2 mT2 hT2 => ?_)
      obtain ⟨eT2, fT2, pT2⟩ := hT2
      rw [fT1.t] at eT2 pT2
      refine o_if_ne (tgt := 32) dX9_signed_25 (by decide) rfl (fun (c25 : ¬ rT2 = 0) => ?_) (fun (c25 : rT2 = 0) => ?_)
      · skip
        have b25 := (if10 eT2).2 c25
        refine o_iconst (v := 0) dX9_signed_32 rfl (by decide) ?_
        refine o_put cl_X9_121 cp_X9_10 dX9_signed_33 rfl (by decide) (by rfl) (by rfl) (fitZ (Or.inl rfl)) ?_
        refine o_aload_n dX9_signed_36 rfl rfl (by rfl) ?_
        have hS9 : PSR (upF mT2 94 10 0) n (pTk (mu 99) n 43 (pTk (mu 99) n 45 s).2).2 := by have h9 := pT2.set1 (b' := true) (x := 0) rfl; have e9 : (pTk (mu 99) n 43 (pTk (mu 99) n 45 s).2).2.2 = true := pTk_st.trans (pTk_ok b25); rw [show ((pTk (mu 99) n 43 (pTk (mu 99) n 45 s).2).2.1, true) = (pTk (mu 99) n 43 (pTk (mu 99) n 45 s).2).2 from by rw [← e9]] at h9; exact h9
        have hF9 : frW mu (upF mT2 94 10 0) := (fT1.tr fT2).u10
        refine o_callV cs_X9_digit cv_X9_136 (c_X9_digit _ n _ hS9) hq.2.2.2 (Nat.le_of_ble_eq_true rfl) dX9_signed_37 rfl (by decide) (by rfl) (by rfl) (by rfl) rfl rfl (Nat.le_of_ble_eq_true rfl) (fun rD mD hD => ?_)
        rw [hF9.t] at hD
        obtain ⟨d1, d2, d3⟩ := hD
        refine o_istore_n (L' := [(0, vC 94), (1, vI rT1), (2, vI rD)]) dX9_signed_40 rfl rfl (by decide) (by rfl) (by rfl) ?_
        refine o_iload_n dX9_signed_41 rfl rfl (by rfl) ?_
        refine o_if_eq (tgt := 50) dX9_signed_42 (by decide) rfl (fun (c42 : rT1 = 0) => ?_) (fun (c42 : ¬ rT1 = 0) => ?_)
        · skip
          have b42 := (if10 eT1).1 c42
          refine o_iload_n dX9_signed_50 rfl rfl (by rfl) ?_
          exact o_iret hq dX9_signed_51 ⟨by rw [pSg_p b16 b25, d1], hF9.tr d2, by rw [pSg_p b16 b25]; exact d3⟩
        · skip
          have b42 := (if10 eT1).2 c42
          exact absurd b42 b16
      · skip
        have b25 := (if10 eT2).1 c25
        refine o_iconst (v := 1) dX9_signed_28 rfl (by decide) ?_
        refine o_goto (tgt := 33) dX9_signed_29 (by decide) ?_
        refine o_put cl_X9_121 cp_X9_10 dX9_signed_33 rfl (by decide) (by rfl) (by rfl) (fitZ (Or.inr rfl)) ?_
        refine o_aload_n dX9_signed_36 rfl rfl (by rfl) ?_
        have hS9 : PSR (upF mT2 94 10 1) n ((pTk (mu 99) n 43 (pTk (mu 99) n 45 s).2).2.1, false) := pT2.set1 rfl
        have hF9 : frW mu (upF mT2 94 10 1) := (fT1.tr fT2).u10
        refine o_callV cs_X9_digit cv_X9_136 (c_X9_digit _ n _ hS9) hq.2.2.2 (Nat.le_of_ble_eq_true rfl) dX9_signed_37 rfl (by decide) (by rfl) (by rfl) (by rfl) rfl rfl (Nat.le_of_ble_eq_true rfl) (fun rD mD hD => ?_)
        rw [hF9.t] at hD
        obtain ⟨d1, d2, d3⟩ := hD
        refine o_istore_n (L' := [(0, vC 94), (1, vI rT1), (2, vI rD)]) dX9_signed_40 rfl rfl (by decide) (by rfl) (by rfl) ?_
        refine o_iload_n dX9_signed_41 rfl rfl (by rfl) ?_
        refine o_if_eq (tgt := 50) dX9_signed_42 (by decide) rfl (fun (c42 : rT1 = 0) => ?_) (fun (c42 : ¬ rT1 = 0) => ?_)
        · skip
          have b42 := (if10 eT1).1 c42
          refine o_iload_n dX9_signed_50 rfl rfl (by rfl) ?_
          exact o_iret hq dX9_signed_51 ⟨by rw [pSg_n b16 b25, d1, pDg_no rfl], hF9.tr d2, by rw [pSg_n b16 b25]; rw [pDg_no rfl] at d3; exact d3⟩
        · skip
          have b42 := (if10 eT1).2 c42
          exact absurd b42 b16
theorem in_dig {d : Nat} (h1 : 48 ≤ d) (h2 : d ≤ 57) : inB (nI d) 48 57 = true := by
  show inB (nI d) (nI 48) (nI 57) = true
  unfold inB
  rw [decide_eq_true_eq, nI_ltI (by omega) (by omega), nI_ltI (by omega) (by omega)]
  omega
/-- within a number -/
def NLR (mu m : Mu) (n : Nat) (s : PSt) (i w : Nat) : Prop := frW mu m ∧ m 94 10 = 0 ∧ m 94 9 = nI i ∧ i ≤ n ∧ w ≤ 9999 ∧ ∃ v, num (mu 99) n v i = num (mu 99) n 0 (sk (mu 99) n s.1) ∧ (w = v ∨ (999 < w ∧ 999 < v))
theorem NLR.go {mu m : Mu} {n i w d : Nat} {s : PSt} {x : Int32} (hi : i < n) (h : NLR mu m n s i w) (hd : mu 99 i = nI d) (h1 : 48 ≤ d) (h2 : d ≤ 57) (hx : x = nI (i + 1)) : NLR mu (upF m 94 9 x) n s (i + 1) (if 999 < w then w else 10 * w + (d - 48)) := by
  obtain ⟨a1, a2, a3, a4, a5, v, a6, a7⟩ := h
  refine ⟨a1.u9, by rw [upF_i (by decide)]; exact a2, by rw [upF_s]; exact hx, hi, ?_, 10 * v + (d - 48), ?_, ?_⟩
  · split <;> omega
  · rw [← a6, num_go (p := i) ⟨hi, by rw [hd]; exact in_dig h1 h2⟩, hd, nI_clamp (by omega)]
  · split <;> omega
theorem NLR.fin {mu m m2 : Mu} {n lo hi i w : Nat} {s : PSt} (hn : n ≤ 60) (hlo : lo < 1000) (hh : hi < 1000) (e8 : mu 94 8 = nI n) (hs : s.1 ≤ n) (hok : s.2 = true) (hdg : inB (nx (mu 99) n s.1) 48 57 = true) (h : NLR mu m n s i w) (hstop : ¬ (i < n ∧ inB (mu 99 i) 48 57 = true))
    (h2 : (inB (nI w) (nI lo) (nI hi) = true ∧ m2 = upF (upF m 94 10 0) 94 9 (m 94 9)) ∨ (¬ inB (nI w) (nI lo) (nI hi) = true ∧ m2 = upF (upF m 94 10 1) 94 9 (nI (sk (mu 99) n s.1)))) : ((pNm (mu 99) n lo hi s).2.2 = true → nI w = nI (pNm (mu 99) n lo hi s).1) ∧ frW mu m2 ∧ PSR m2 n (pNm (mu 99) n lo hi s).2 := by
  obtain ⟨a1, a2, a3, a4, a5, v, a6, a7⟩ := h
  rw [num_at hstop] at a6
  have ep : pNm (mu 99) n lo hi s = if lo ≤ v ∧ v ≤ hi then (v, (i, true)) else (0, (sk (mu 99) n s.1, false)) := by
    unfold pNm
    rw [if_pos hok, if_pos hdg, ← a6]
  have hin : inB (nI w) (nI lo) (nI hi) = true ↔ lo ≤ v ∧ v ≤ hi := by
    unfold inB
    rw [decide_eq_true_eq, nI_ltI (by omega) (by omega), nI_ltI (by omega) (by omega)]
    omega
  have e9 : m 94 8 = nI n := (a1.2 8 (by decide) (by decide)).trans e8
  rw [ep]
  rcases h2 with ⟨q, em⟩ | ⟨q, em⟩
  · have hr := hin.mp q
    subst em
    rw [if_pos hr]
    exact ⟨(fun _ => by rw [show w = v by omega]), a1.u10.u9, by rw [upF_i (by decide), upF_i (by decide)]; exact e9, hn, a4, by rw [upF_s]; exact a3, by rw [upF_i (by decide), upF_s]; rfl⟩
  · rw [if_neg (fun h => q (hin.mpr h))]
    subst em
    exact ⟨(fun h => by cases h), a1.u10.u9, by rw [upF_i (by decide), upF_i (by decide)]; exact e9, hn, (sk_le hs).1, upF_s, by rw [upF_i (by decide), upF_s]; rfl⟩
set_option maxHeartbeats 4000000 in
set_option maxRecDepth 100000 in
theorem c_X9_number (mu : Mu) (n lo hi : Nat) (s : PSt) (hP : PSR mu n s) (hlo : lo < 1000) (hh : hi < 1000) : Con yX9_number cX9_number 5 (some .int) 1 [vC 94, vI (nI lo), vI (nI hi)] mu (fun r mu2 => ((pNm (mu 99) n lo hi s).2.2 = true → r = nI (pNm (mu 99) n lo hi s).1) ∧ frW mu mu2 ∧ PSR mu2 n (pNm (mu 99) n lo hi s).2) := by
  refine con_of (own := RX9) (by decide) rfl (Nat.le_of_ble_eq_true rfl) (fun X g hq => ?_)
  show WA X g RX9 5 cX9_number 0 [(0, vC 94), (1, vI (nI lo)), (2, vI (nI hi))] [] mu
  obtain ⟨e8, hn, hs, -⟩ := id hP
  refine o_aload_n dX9_number_0 rfl rfl (by rfl) ?_
  refine o_getI cl_X9_121 dX9_number_1 rfl (by decide) (by rfl) (by rfl) ?_
  refine o_if_ne (tgt := 24) dX9_number_4 (by decide) rfl (fun (c4 : ¬ (mu 94 10) = 0) => ?_) (fun (c4 : (mu 94 10) = 0) => ?_)
  · skip
    refine o_aload_n dX9_number_24 rfl rfl (by rfl) ?_
    refine o_iconst (v := 1) dX9_number_25 rfl (by decide) ?_
    refine o_put cl_X9_121 cp_X9_10 dX9_number_26 rfl (by decide) (by rfl) (by rfl) (fitZ (Or.inr rfl)) ?_
    refine o_iconst (v := 0) dX9_number_29 rfl (by decide) ?_
    exact o_iret hq dX9_number_30 ⟨(fun h9 => by rw [pNm_no (hP.no c4), hP.no c4] at h9; exact absurd h9 Bool.false_ne_true), (frW.rf mu).u10, by rw [pNm_no (hP.no c4)]; have h9 := hP.set1 (b' := false) (x := 1) rfl; rw [← hP.no c4] at h9; exact h9⟩
  · skip
    have hok := hP.ok c4
    refine o_aload_n dX9_number_7 rfl rfl (by rfl) ?_
    refine o_callV cs_X9_here cv_X9_125 (c_X9_here mu n _ hP.1 hP.2.1 hP.2.2.1 hP.2.2.2.1) hq.2.2.2 (Nat.le_of_ble_eq_true rfl) dX9_number_8 rfl (by decide) (by rfl) (by rfl) (by rfl) rfl rfl (Nat.le_of_ble_eq_true rfl) (fun rH1 mH1 hH1 => ?_)
    refine o_i2l dX9_number_11 rfl ?_
    refine o_ldc2 dX9_number_12 rfl kc_X9_129 ?_
    refine o_ldc2 dX9_number_15 rfl kc_X9_131 ?_
    refine o_callS cs_X9_in ct_X9_71 (c_in _ rH1 48 57) hq.2.2.2 (Nat.le_of_ble_eq_true rfl) dX9_number_18 rfl rfl rfl (Nat.le_of_ble_eq_true rfl) (fun r2 mu2 h2 => ?_)
    obtain ⟨em, h2⟩ := h2
    rw [em]
    refine o_if_ne (tgt := 31) dX9_number_21 (by decide) rfl (fun (c21 : ¬ r2 = 0) => ?_) (fun (c21 : r2 = 0) => ?_)
    · skip
      have b21 := (if10 h2).2 c21
      have hyes : inB (nx (mu 99) n s.1) 48 57 = true := by rw [hH1.1, nxR_in] at b21; exact b21
      have efst : mH1 94 9 = nI (sk (mu 99) n s.1) := hH1.2.2.2
      refine o_aload_n dX9_number_31 rfl rfl (by rfl) ?_
      refine o_getI cl_X9_118 dX9_number_32 rfl (by decide) (by rfl) (by rfl) ?_
      refine o_istore_n (L' := [(0, vC 94), (1, vI (nI lo)), (2, vI (nI hi)), (3, vI (mH1 94 9))]) dX9_number_35 rfl rfl (by decide) (by rfl) (by rfl) ?_
      refine o_iconst (v := 0) dX9_number_36 rfl (by decide) ?_
      refine o_istore (L' := [(0, vC 94), (1, vI (nI lo)), (2, vI (nI hi)), (3, vI (mH1 94 9)), (4, vI 0)]) dX9_number_37 rfl (by decide) (by rfl) (by rfl) ?_
      have LP39 : ∀ (nLP39 : Nat) (i w : Nat) (m : Mu) , (NLR mu m n s i w) → (n < i + nLP39) → WA X g RX9 5 cX9_number 39 [(0, vC 94), (1, vI (nI lo)), (2, vI (nI hi)), (3, vI (mH1 94 9)), (4, vI (nI w))] [] m := by
        intro nLP39
        induction nLP39 with
        | zero =>
          intro i w m hL hm
          exact absurd hm (by have := hL.2.2.2.1; omega)
        | succ nLP39 ihLP39 =>
          intro i w m hL hm
          have e9i : m 94 9 = nI i := hL.2.2.1
          have hi0 : i ≤ n := hL.2.2.2.1
          have e98 : m 94 8 = nI n := (hL.1.2 8 (by decide) (by decide)).trans e8
          refine o_aload_n dX9_number_39 rfl rfl (by rfl) ?_
          refine o_getI cl_X9_118 dX9_number_40 rfl (by decide) (by rfl) (by rfl) ?_
          refine o_aload_n dX9_number_43 rfl rfl (by rfl) ?_
          refine o_getI cl_X9_115 dX9_number_44 rfl (by decide) (by rfl) (by rfl) ?_
          refine o_icmp_ge (tgt := 118) dX9_number_47 (by decide) rfl (fun (c47 : (m 94 8) ≤ (m 94 9)) => ?_) (fun (c47 : ¬ (m 94 8) ≤ (m 94 9)) => ?_)
          · skip
            rw [e9i, e98] at c47
            have hni := nI_dec2 c47 (by omega) (by omega)
            refine o_aload_n dX9_number_118 rfl rfl (by rfl) ?_
            refine o_iload dX9_number_119 rfl (by rfl) ?_
            refine o_i2l dX9_number_121 rfl ?_
            refine o_iload_n dX9_number_122 rfl rfl (by rfl) ?_
            refine o_i2l dX9_number_123 rfl ?_
            refine o_iload_n dX9_number_124 rfl rfl (by rfl) ?_
            refine o_i2l dX9_number_125 rfl ?_
            refine o_callS cs_X9_in ct_X9_71 (c_in _ (nI w) (nI lo) (nI hi)) hq.2.2.2 (Nat.le_of_ble_eq_true rfl) dX9_number_126 rfl rfl rfl (Nat.le_of_ble_eq_true rfl) (fun r3 mu3 h3 => ?_)
            obtain ⟨em, h3⟩ := h3
            rw [em]
            refine o_if_ne (tgt := 136) dX9_number_129 (by decide) rfl (fun (c129 : ¬ r3 = 0) => ?_) (fun (c129 : r3 = 0) => ?_)
            · skip
              have b129 := (if10 h3).2 c129
              refine o_iconst (v := 0) dX9_number_136 rfl (by decide) ?_
              refine o_put cl_X9_121 cp_X9_10 dX9_number_137 rfl (by decide) (by rfl) (by rfl) (fitZ (Or.inl rfl)) ?_
              refine o_aload_n dX9_number_140 rfl rfl (by rfl) ?_
              refine o_aload_n dX9_number_141 rfl rfl (by rfl) ?_
              refine o_getI cl_X9_121 dX9_number_142 rfl (by decide) (by rfl) (by rfl) ?_
              refine o_if_eq (tgt := 152) dX9_number_145 (by decide) rfl (fun (c145 : (0 : Int32) = 0) => ?_) (fun (c145 : ¬ (0 : Int32) = 0) => ?_)
              · skip
                refine o_aload_n dX9_number_152 rfl rfl (by rfl) ?_
                refine o_getI cl_X9_118 dX9_number_153 rfl (by decide) (by rfl) (by rfl) ?_
                refine o_put cl_X9_118 cp_X9_9 dX9_number_156 rfl (by decide) (by rfl) (by rfl) fitI ?_
                refine o_iload dX9_number_159 rfl (by rfl) ?_
                exact o_iret hq dX9_number_161 (NLR.fin hn hlo hh e8 hs hok hyes hL (fun h9 => by omega) (Or.inl ⟨b129, rfl⟩))
              · skip
                exact absurd (by decide) c145
            · skip
              have b129 := (if10 h3).1 c129
              refine o_iconst (v := 1) dX9_number_132 rfl (by decide) ?_
              refine o_goto (tgt := 137) dX9_number_133 (by decide) ?_
              refine o_put cl_X9_121 cp_X9_10 dX9_number_137 rfl (by decide) (by rfl) (by rfl) (fitZ (Or.inr rfl)) ?_
              refine o_aload_n dX9_number_140 rfl rfl (by rfl) ?_
              refine o_aload_n dX9_number_141 rfl rfl (by rfl) ?_
              refine o_getI cl_X9_121 dX9_number_142 rfl (by decide) (by rfl) (by rfl) ?_
              refine o_if_eq (tgt := 152) dX9_number_145 (by decide) rfl (fun (c145 : (1 : Int32) = 0) => ?_) (fun (c145 : ¬ (1 : Int32) = 0) => ?_)
              · skip
                exact absurd c145 (by decide)
              · skip
                refine o_iload_n dX9_number_148 rfl rfl (by rfl) ?_
                refine o_goto (tgt := 156) dX9_number_149 (by decide) ?_
                refine o_put cl_X9_118 cp_X9_9 dX9_number_156 rfl (by decide) (by rfl) (by rfl) fitI ?_
                refine o_iload dX9_number_159 rfl (by rfl) ?_
                exact o_iret hq dX9_number_161 (NLR.fin hn hlo hh e8 hs hok hyes hL (fun h9 => by omega) (Or.inr ⟨b129, by rw [efst]⟩))
          · skip
            rw [e9i, e98] at c47
            have hin := nI_dec c47 (by omega) (by omega)
            refine o_aload_n dX9_number_50 rfl rfl (by rfl) ?_
            refine o_getC (q := 99) cl_X9_22 dX9_number_51 rfl (by decide) (by rfl) (by rfl) ?_
            refine o_aload_n dX9_number_54 rfl rfl (by rfl) ?_
            refine o_getI cl_X9_118 dX9_number_55 rfl (by decide) (by rfl) (by rfl) ?_
            refine o_iald dX9_number_58 rfl (by decide) (by rfl) (by rfl) (by rw [e9i]; exact vp_in_nI (by omega) (by decide)) ?_
            refine o_i2l dX9_number_59 rfl ?_
            refine o_ldc2 dX9_number_60 rfl kc_X9_129 ?_
            refine o_ldc2 dX9_number_63 rfl kc_X9_131 ?_
            refine o_callS cs_X9_in ct_X9_71 (c_in _ (m 99 (m 94 9).toNatClampNeg) 48 57) hq.2.2.2 (Nat.le_of_ble_eq_true rfl) dX9_number_66 rfl rfl rfl (Nat.le_of_ble_eq_true rfl) (fun r4 mu4 h4 => ?_)
            obtain ⟨em, h4⟩ := h4
            rw [em]
            refine o_if_eq (tgt := 118) dX9_number_69 (by decide) rfl (fun (c69 : r4 = 0) => ?_) (fun (c69 : ¬ r4 = 0) => ?_)
            · skip
              have b69 := (if10 h4).1 c69
              refine o_aload_n dX9_number_118 rfl rfl (by rfl) ?_
              refine o_iload dX9_number_119 rfl (by rfl) ?_
              refine o_i2l dX9_number_121 rfl ?_
              refine o_iload_n dX9_number_122 rfl rfl (by rfl) ?_
              refine o_i2l dX9_number_123 rfl ?_
              refine o_iload_n dX9_number_124 rfl rfl (by rfl) ?_
              refine o_i2l dX9_number_125 rfl ?_
              refine o_callS cs_X9_in ct_X9_71 (c_in _ (nI w) (nI lo) (nI hi)) hq.2.2.2 (Nat.le_of_ble_eq_true rfl) dX9_number_126 rfl rfl rfl (Nat.le_of_ble_eq_true rfl) (fun r5 mu5 h5 => ?_)
              obtain ⟨em, h5⟩ := h5
              rw [em]
              refine o_if_ne (tgt := 136) dX9_number_129 (by decide) rfl (fun (c129 : ¬ r5 = 0) => ?_) (fun (c129 : r5 = 0) => ?_)
              · skip
                have b129 := (if10 h5).2 c129
                refine o_iconst (v := 0) dX9_number_136 rfl (by decide) ?_
                refine o_put cl_X9_121 cp_X9_10 dX9_number_137 rfl (by decide) (by rfl) (by rfl) (fitZ (Or.inl rfl)) ?_
                refine o_aload_n dX9_number_140 rfl rfl (by rfl) ?_
                refine o_aload_n dX9_number_141 rfl rfl (by rfl) ?_
                refine o_getI cl_X9_121 dX9_number_142 rfl (by decide) (by rfl) (by rfl) ?_
                refine o_if_eq (tgt := 152) dX9_number_145 (by decide) rfl (fun (c145 : (0 : Int32) = 0) => ?_) (fun (c145 : ¬ (0 : Int32) = 0) => ?_)
                · skip
                  refine o_aload_n dX9_number_152 rfl rfl (by rfl) ?_
                  refine o_getI cl_X9_118 dX9_number_153 rfl (by decide) (by rfl) (by rfl) ?_
                  refine o_put cl_X9_118 cp_X9_9 dX9_number_156 rfl (by decide) (by rfl) (by rfl) fitI ?_
                  refine o_iload dX9_number_159 rfl (by rfl) ?_
                  exact o_iret hq dX9_number_161 (NLR.fin hn hlo hh e8 hs hok hyes hL (fun h9 => b69 (by rw [e9i, nI_clamp (by omega), hL.1.t]; exact h9.2)) (Or.inl ⟨b129, rfl⟩))
                · skip
                  exact absurd (by decide) c145
              · skip
                have b129 := (if10 h5).1 c129
                refine o_iconst (v := 1) dX9_number_132 rfl (by decide) ?_
                refine o_goto (tgt := 137) dX9_number_133 (by decide) ?_
                refine o_put cl_X9_121 cp_X9_10 dX9_number_137 rfl (by decide) (by rfl) (by rfl) (fitZ (Or.inr rfl)) ?_
                refine o_aload_n dX9_number_140 rfl rfl (by rfl) ?_
                refine o_aload_n dX9_number_141 rfl rfl (by rfl) ?_
                refine o_getI cl_X9_121 dX9_number_142 rfl (by decide) (by rfl) (by rfl) ?_
                refine o_if_eq (tgt := 152) dX9_number_145 (by decide) rfl (fun (c145 : (1 : Int32) = 0) => ?_) (fun (c145 : ¬ (1 : Int32) = 0) => ?_)
                · skip
                  exact absurd c145 (by decide)
                · skip
                  refine o_iload_n dX9_number_148 rfl rfl (by rfl) ?_
                  refine o_goto (tgt := 156) dX9_number_149 (by decide) ?_
                  refine o_put cl_X9_118 cp_X9_9 dX9_number_156 rfl (by decide) (by rfl) (by rfl) fitI ?_
                  refine o_iload dX9_number_159 rfl (by rfl) ?_
                  exact o_iret hq dX9_number_161 (NLR.fin hn hlo hh e8 hs hok hyes hL (fun h9 => b69 (by rw [e9i, nI_clamp (by omega), hL.1.t]; exact h9.2)) (Or.inr ⟨b129, by rw [efst]⟩))
            · skip
              have b69 := (if10 h4).2 c69
              refine o_iload dX9_number_72 rfl (by rfl) ?_
              refine o_sipush (v := 999) dX9_number_74 rfl (by decide) ?_
              refine o_icmp_le (tgt := 85) dX9_number_77 (by decide) rfl (fun (c77 : (nI w) ≤ 999) => ?_) (fun (c77 : ¬ (nI w) ≤ 999) => ?_)
              · skip
                refine o_bipush (v := 10) dX9_number_85 rfl (by decide) ?_
                refine o_iload dX9_number_87 rfl (by rfl) ?_
                refine o_imul dX9_number_89 rfl ?_
                refine o_aload_n dX9_number_90 rfl rfl (by rfl) ?_
                refine o_getC (q := 99) cl_X9_22 dX9_number_91 rfl (by decide) (by rfl) (by rfl) ?_
                refine o_aload_n dX9_number_94 rfl rfl (by rfl) ?_
                refine o_getI cl_X9_118 dX9_number_95 rfl (by decide) (by rfl) (by rfl) ?_
                refine o_iald dX9_number_98 rfl (by decide) (by rfl) (by rfl) (by rw [e9i]; exact vp_in_nI (by omega) (by decide)) ?_
                refine o_iadd dX9_number_99 rfl ?_
                refine o_bipush (v := 48) dX9_number_100 rfl (by decide) ?_
                refine o_isub dX9_number_102 rfl ?_
                refine o_istore (L' := [(0, vC 94), (1, vI (nI lo)), (2, vI (nI hi)), (3, vI (mH1 94 9)), (4, vI (((10 * (nI w)) + (m 99 (m 94 9).toNatClampNeg)) - 48))]) dX9_number_103 rfl (by decide) (by rfl) (by rfl) ?_
                refine o_aload_n dX9_number_105 rfl rfl (by rfl) ?_
                refine o_dup dX9_number_106 rfl rfl ?_
                refine o_getI cl_X9_118 dX9_number_107 rfl (by decide) (by rfl) (by rfl) ?_
                refine o_iconst (v := 1) dX9_number_110 rfl (by decide) ?_
                refine o_iadd dX9_number_111 rfl ?_
                refine o_put cl_X9_118 cp_X9_9 dX9_number_112 rfl (by decide) (by rfl) (by rfl) fitI ?_
                refine o_goto (tgt := 39) dX9_number_115 (by decide) ?_
                have hdg2 := b69
                rw [e9i, nI_clamp (by omega), hL.1.t] at hdg2
                obtain ⟨d, ed, hd1, hd2⟩ := dig_nI hdg2
                have hG := hL.go hin ed hd1 hd2 (x := m 94 9 + 1) (by rw [e9i, nI_1])
                have hw : ¬ 999 < w := fun h9 => absurd c77 (Int32.not_le.mpr (show nI 999 < nI w from nI_lt h9 (by have := hL.2.2.2.2.1; omega)))
                rw [if_neg hw] at hG
                rw [show (((10 * (nI w)) + (m 99 (m 94 9).toNatClampNeg)) - 48) = nI (10 * w + (d - 48)) by rw [e9i, nI_clamp (by omega), hL.1.t, ed, show (10 : Int32) = nI 10 from rfl, show (48 : Int32) = nI 48 from rfl, pk_mul, nI_add, pk_sub (by omega)]; congr 1; omega]
                exact ihLP39 (i + 1) _ _ hG (by omega)
              · skip
                refine o_iload dX9_number_80 rfl (by rfl) ?_
                refine o_goto (tgt := 103) dX9_number_82 (by decide) ?_
                refine o_istore (L' := [(0, vC 94), (1, vI (nI lo)), (2, vI (nI hi)), (3, vI (mH1 94 9)), (4, vI (nI w))]) dX9_number_103 rfl (by decide) (by rfl) (by rfl) ?_
                refine o_aload_n dX9_number_105 rfl rfl (by rfl) ?_
                refine o_dup dX9_number_106 rfl rfl ?_
                refine o_getI cl_X9_118 dX9_number_107 rfl (by decide) (by rfl) (by rfl) ?_
                refine o_iconst (v := 1) dX9_number_110 rfl (by decide) ?_
                refine o_iadd dX9_number_111 rfl ?_
                refine o_put cl_X9_118 cp_X9_9 dX9_number_112 rfl (by decide) (by rfl) (by rfl) fitI ?_
                refine o_goto (tgt := 39) dX9_number_115 (by decide) ?_
                have hdg2 := b69
                rw [e9i, nI_clamp (by omega), hL.1.t] at hdg2
                obtain ⟨d, ed, hd1, hd2⟩ := dig_nI hdg2
                have hG := hL.go hin ed hd1 hd2 (x := m 94 9 + 1) (by rw [e9i, nI_1])
                have hw : 999 < w := Decidable.not_not.mp (fun h9 => c77 (Int32.not_lt.mp (show ¬ nI 999 < nI w from nI_nlt (by omega) (by have := hL.2.2.2.2.1; omega))))
                rw [if_pos hw] at hG
                exact ihLP39 (i + 1) _ _ hG (by omega)
      exact LP39 (n + 1) (sk (mu 99) n s.1) 0 _ ⟨hH1.fr, (hH1.2.2.1 10 (by decide)).trans c4, efst, (sk_le hs).1, by omega, 0, rfl, Or.inl rfl⟩ (by omega)
    · skip
      have b21 := (if10 h2).1 c21
      have hno : ¬ inB (nx (mu 99) n s.1) 48 57 = true := by rw [hH1.1, nxR_in] at b21; exact b21
      refine o_aload_n dX9_number_24 rfl rfl (by rfl) ?_
      refine o_iconst (v := 1) dX9_number_25 rfl (by decide) ?_
      refine o_put cl_X9_121 cp_X9_10 dX9_number_26 rfl (by decide) (by rfl) (by rfl) (fitZ (Or.inr rfl)) ?_
      refine o_iconst (v := 0) dX9_number_29 rfl (by decide) ?_
      exact o_iret hq dX9_number_30 ⟨(fun h9 => by rw [pNm_nd hok hno] at h9; exact absurd h9 Bool.false_ne_true), hH1.fr.u10, by rw [pNm_nd hok hno]; exact (hH1.st hP).set1 rfl⟩
/-- a clause under way: the places of S are written -/
def QP (mu m : Mu) (k c : Nat) (G : Prop) (S : Nat → Prop) (V : Vc) : Prop := (∀ q, q ≠ 94 → q ≠ 100 → m q = mu q) ∧ (∀ j, j ≠ 9 → j ≠ 10 → m 94 j = mu 94 j) ∧ (∀ i, (i < k ∨ k + c ≤ i) → m 100 i = mu 100 i) ∧ (∀ t, S t → G → m 100 (k + t) = V t)
theorem QP.nil (mu : Mu) (k c : Nat) (G : Prop) (V : Vc) : QP mu mu k c G (fun _ => False) V := ⟨fun _ _ _ => rfl, fun _ _ _ => rfl, fun _ _ => rfl, fun _ h => h.elim⟩
theorem QP.w {mu m m2 : Mu} {k c : Nat} {G : Prop} {S : Nat → Prop} {V : Vc} (h : QP mu m k c G S V) (h2 : frW m m2) : QP mu m2 k c G S V :=
  ⟨fun q q1 q2 => (h2.1 q q1).trans (h.1 q q1 q2), fun j j1 j2 => (h2.2 j j1 j2).trans (h.2.1 j j1 j2), fun i hi => by rw [h2.1 100 (by decide)]; exact h.2.2.1 i hi, fun t ht g => by rw [h2.1 100 (by decide)]; exact h.2.2.2 t ht g⟩
theorem QP.u {mu m : Mu} {k c t ix : Nat} {G : Prop} {S : Nat → Prop} {V : Vc} {x : Int32} (h : QP mu m k c G S V) (hi : ix = k + t) (ht : t < c) (hx : G → x = V t) : QP mu (upF m 100 ix x) k c G (fun j => j = t ∨ S j) V := by
  subst hi
  refine ⟨fun q q1 q2 => by rw [upF_k q2]; exact h.1 q q1 q2, fun j j1 j2 => by rw [upF_k (by decide)]; exact h.2.1 j j1 j2, fun i hi => by rw [upF_i (by omega)]; exact h.2.2.1 i hi, fun j hj g => ?_⟩
  by_cases q : j = t
  · subst q
    rw [upF_s]
    exact hx g
  · rw [upF_i (by omega)]
    exact h.2.2.2 j (hj.resolve_left q) g
theorem QP.t {mu m : Mu} {k c : Nat} {G : Prop} {S : Nat → Prop} {V : Vc} (h : QP mu m k c G S V) : m 99 = mu 99 := h.1 99 (by decide) (by decide)
theorem PSR.u {m : Mu} {n i : Nat} {s : PSt} {x : Int32} (h : PSR m n s) : PSR (upF m 100 i x) n s := by
  obtain ⟨h1, h2, h3, h4, h5⟩ := h
  exact ⟨by rw [upF_k (by decide)]; exact h1, h2, h3, by rw [upF_k (by decide)]; exact h4, by rw [upF_k (by decide)]; exact h5⟩
theorem xkR0 {x : Int32} {k : Nat} (hx : x = nI k) (h : k < 2 ^ 31) : x.toNatClampNeg = k + 0 := by rw [hx, nI_clamp h]; rfl
theorem xkR {x : Int32} {k t : Nat} (hx : x = nI k) (h : k + t < 2 ^ 31) : (x + nI t).toNatClampNeg = k + t := by rw [hx, nI_add, nI_clamp h]
theorem xbR0 {x : Int32} {k n : Nat} (hx : x = nI k) (h : k < n) (hn : n < 2 ^ 31) : vp_in x n := by rw [hx]; exact vp_in_nI h hn
theorem xbR {x : Int32} {k t n : Nat} (hx : x = nI k) (h : k + t < n) (hn : n < 2 ^ 31) : vp_in (x + nI t) n := by rw [hx, nI_add]; exact vp_in_nI h hn
/-- a clause read -/
def CLR (mu m : Mu) (n k c : Nat) (s : PSt) (V : Vc) : Prop := PSR m n s ∧ QP mu m k c (s.2 = true) (fun t => t < c) V
theorem QP.full {mu m : Mu} {k c : Nat} {G : Prop} {S S2 : Nat → Prop} {V : Vc} (h : QP mu m k c G S V) (hs : ∀ t, S2 t → S t) : QP mu m k c G S2 V := ⟨h.1, h.2.1, h.2.2.1, fun t ht g => h.2.2.2 t (hs t ht) g⟩
set_option maxHeartbeats 4000000 in
set_option maxRecDepth 100000 in
theorem c_X9_cupClause (mu : Mu) (n : Nat) (s : PSt) (hP : PSR mu n s) (x : Int32) (k : Nat) (hx : x = nI k) (hk : k + 5 ≤ 20) : ConV yX9_cupClause cX9_cupClause 2 3 [vC 94, vI x] mu (fun mu2 => CLR mu mu2 n k 5 (pCup (mu 99) n s) (cupV (mu 99) n s)) := by
  refine conV_of (own := RX9) (by decide) rfl (Nat.le_of_ble_eq_true rfl) (fun X g hq => ?_)
  show WA X g RX9 2 cX9_cupClause 0 [(0, vC 94), (1, vI x)] [] mu
  have q0 := QP.nil mu k 5 ((pCup (mu 99) n s).2 = true) (cupV (mu 99) n s)
  refine o_aload_n dX9_cupClause_0 rfl rfl (by rfl) ?_
  refine o_getC (q := 100) cl_X9_25 dX9_cupClause_1 rfl (by decide) (by rfl) (by rfl) ?_
  refine o_iload_n dX9_cupClause_4 rfl rfl (by rfl) ?_
  refine o_aload_n dX9_cupClause_5 rfl rfl (by rfl) ?_
  refine o_callV cs_X9_signed cv_X9_139 (c_X9_signed mu n _ hP) hq.2.2.2 (Nat.le_of_ble_eq_true rfl) dX9_cupClause_6 rfl (by decide) (by rfl) (by rfl) (by rfl) rfl rfl (Nat.le_of_ble_eq_true rfl) (fun rS1 mS1 hS1 => ?_)
  obtain ⟨eS1, fS1, pS1⟩ := hS1
  refine o_iast dX9_cupClause_9 rfl (by decide) (by rfl) (by rfl) (xbR0 hx (by omega) (by decide)) ?_
  have q1 := (q0.w fS1).u (t := 0) (ix := x.toNatClampNeg) (xkR0 hx (by omega)) (by decide) (fun _ => eS1)
  refine o_aload_n dX9_cupClause_10 rfl rfl (by rfl) ?_
  refine o_getC (q := 100) cl_X9_25 dX9_cupClause_11 rfl (by decide) (by rfl) (by rfl) ?_
  refine o_iload_n dX9_cupClause_14 rfl rfl (by rfl) ?_
  refine o_iconst (v := 1) dX9_cupClause_15 rfl (by decide) ?_
  refine o_iadd dX9_cupClause_16 rfl ?_
  refine o_aload_n dX9_cupClause_17 rfl rfl (by rfl) ?_
  refine o_callV cs_X9_signed cv_X9_139 (c_X9_signed _ n _ pS1.u) hq.2.2.2 (Nat.le_of_ble_eq_true rfl) dX9_cupClause_18 rfl (by decide) (by rfl) (by rfl) (by rfl) rfl rfl (Nat.le_of_ble_eq_true rfl) (fun rS2 mS2 hS2 => ?_)
  rw [q1.t] at hS2
  obtain ⟨eS2, fS2, pS2⟩ := hS2
  refine o_iast dX9_cupClause_21 rfl (by decide) (by rfl) (by rfl) (xbR (t := 1) hx (by omega) (by decide)) ?_
  have q2 := (q1.w fS2).u (t := 1) (ix := (x + 1).toNatClampNeg) (xkR (t := 1) hx (by omega)) (by decide) (fun _ => eS2)
  refine o_aload_n dX9_cupClause_22 rfl rfl (by rfl) ?_
  refine o_getC (q := 100) cl_X9_25 dX9_cupClause_23 rfl (by decide) (by rfl) (by rfl) ?_
  refine o_iload_n dX9_cupClause_26 rfl rfl (by rfl) ?_
  refine o_iconst (v := 2) dX9_cupClause_27 rfl (by decide) ?_
  refine o_iadd dX9_cupClause_28 rfl ?_
  refine o_aload_n dX9_cupClause_29 rfl rfl (by rfl) ?_
  refine o_callV cs_X9_digit cv_X9_136 (c_X9_digit _ n _ pS2.u) hq.2.2.2 (Nat.le_of_ble_eq_true rfl) dX9_cupClause_30 rfl (by decide) (by rfl) (by rfl) (by rfl) rfl rfl (Nat.le_of_ble_eq_true rfl) (fun rD mD hD => ?_)
  rw [q2.t] at hD
  obtain ⟨eD, fD, pD⟩ := hD
  refine o_iast dX9_cupClause_33 rfl (by decide) (by rfl) (by rfl) (xbR (t := 2) hx (by omega) (by decide)) ?_
  have q3 := (q2.w fD).u (t := 2) (ix := (x + 2).toNatClampNeg) (xkR (t := 2) hx (by omega)) (by decide) (fun _ => eD)
  refine o_aload_n dX9_cupClause_34 rfl rfl (by rfl) ?_
  refine o_getC (q := 100) cl_X9_25 dX9_cupClause_35 rfl (by decide) (by rfl) (by rfl) ?_
  refine o_iload_n dX9_cupClause_38 rfl rfl (by rfl) ?_
  refine o_iconst (v := 4) dX9_cupClause_39 rfl (by decide) ?_
  refine o_iadd dX9_cupClause_40 rfl ?_
  refine o_aload_n dX9_cupClause_41 rfl rfl (by rfl) ?_
  refine o_bipush (v := 115) dX9_cupClause_42 rfl (by decide) ?_
  refine o_callV cs_X9_has cv_X9_133 (c_X9_has _ n _ pD.u 115 (by decide) (by decide)) hq.2.2.2 (Nat.le_of_ble_eq_true rfl) dX9_cupClause_44 rfl (by decide) (by rfl) (by rfl) (by rfl) rfl rfl (Nat.le_of_ble_eq_true rfl) (fun rT1 mT1 hT1 => ?_)
  rw [q3.t] at hT1
  obtain ⟨eT1, fT1, pT1⟩ := hT1
  refine o_if_eq (tgt := 54) dX9_cupClause_47 (by decide) rfl (fun (c47 : rT1 = 0) => ?_) (fun (c47 : ¬ rT1 = 0) => ?_)
  · skip
    have b47 := (if10 eT1).1 c47
    refine o_iconst (v := 0) dX9_cupClause_54 rfl (by decide) ?_
    refine o_iast dX9_cupClause_55 rfl (by decide) (by rfl) (by rfl) (xbR (t := 4) hx (by omega) (by decide)) ?_
    have q4 := (q3.w fT1).u (t := 4) (ix := (x + 4).toNatClampNeg) (x := 0) (xkR (t := 4) hx (by omega)) (by decide) (fun _ => (if_neg b47).symm)
    refine o_aload_n dX9_cupClause_56 rfl rfl (by rfl) ?_
    refine o_getC (q := 100) cl_X9_25 dX9_cupClause_57 rfl (by decide) (by rfl) (by rfl) ?_
    refine o_iload_n dX9_cupClause_60 rfl rfl (by rfl) ?_
    refine o_iconst (v := 3) dX9_cupClause_61 rfl (by decide) ?_
    refine o_iadd dX9_cupClause_62 rfl ?_
    refine o_aload_n dX9_cupClause_63 rfl rfl (by rfl) ?_
    refine o_bipush (v := 58) dX9_cupClause_64 rfl (by decide) ?_
    refine o_callV cs_X9_has cv_X9_133 (c_X9_has _ n _ pT1.u 58 (by decide) (by decide)) hq.2.2.2 (Nat.le_of_ble_eq_true rfl) dX9_cupClause_66 rfl (by decide) (by rfl) (by rfl) (by rfl) rfl rfl (Nat.le_of_ble_eq_true rfl) (fun rT2 mT2 hT2 => ?_)
    rw [q4.t] at hT2
    obtain ⟨eT2, fT2, pT2⟩ := hT2
    refine o_if_eq (tgt := 82) dX9_cupClause_69 (by decide) rfl (fun (c69 : rT2 = 0) => ?_) (fun (c69 : ¬ rT2 = 0) => ?_)
    · skip
      have b69 := (if10 eT2).1 c69
      refine o_iconst (v := 1) dX9_cupClause_82 rfl (by decide) ?_
      refine o_iast dX9_cupClause_83 rfl (by decide) (by rfl) (by rfl) (xbR (t := 3) hx (by omega) (by decide)) ?_
      have q5 := (q4.w fT2).u (t := 3) (ix := (x + 3).toNatClampNeg) (x := 1) (xkR (t := 3) hx (by omega)) (by decide) (fun _ => (if_neg b69).symm)
      exact o_vret hq dX9_cupClause_84 ⟨by unfold pCup; rw [if_neg b69]; exact pT2.u, q5.full (fun t ht => by omega)⟩
    · skip
      have b69 := (if10 eT2).2 c69
      refine o_aload_n dX9_cupClause_72 rfl rfl (by rfl) ?_
      refine o_iconst (v := 0) dX9_cupClause_73 rfl (by decide) ?_
      refine o_bipush (v := 99) dX9_cupClause_74 rfl (by decide) ?_
      refine o_callV cs_X9_number cv_X9_142 (c_X9_number _ n 0 99 _ pT2 (by decide) (by decide)) hq.2.2.2 (Nat.le_of_ble_eq_true rfl) dX9_cupClause_76 rfl (by decide) (by rfl) (by rfl) (by rfl) rfl rfl (Nat.le_of_ble_eq_true rfl) (fun rN mN hN => ?_)
      rw [fT2.t, q4.t] at hN
      obtain ⟨eN, fN, pN⟩ := hN
      refine o_goto (tgt := 83) dX9_cupClause_79 (by decide) ?_
      refine o_iast dX9_cupClause_83 rfl (by decide) (by rfl) (by rfl) (xbR (t := 3) hx (by omega) (by decide)) ?_
      have q5 := ((q4.w fT2).w fN).u (t := 3) (ix := (x + 3).toNatClampNeg) (x := rN) (xkR (t := 3) hx (by omega)) (by decide) (fun g9 => by unfold pCup at g9; rw [if_pos b69] at g9; rw [eN g9]; exact (if_pos b69).symm)
      exact o_vret hq dX9_cupClause_84 ⟨by unfold pCup; rw [if_pos b69]; exact pN.u, q5.full (fun t ht => by omega)⟩
  · skip
    have b47 := (if10 eT1).2 c47
    refine o_iconst (v := 1) dX9_cupClause_50 rfl (by decide) ?_
    refine o_goto (tgt := 55) dX9_cupClause_51 (by decide) ?_
    refine o_iast dX9_cupClause_55 rfl (by decide) (by rfl) (by rfl) (xbR (t := 4) hx (by omega) (by decide)) ?_
    have q4 := (q3.w fT1).u (t := 4) (ix := (x + 4).toNatClampNeg) (x := 1) (xkR (t := 4) hx (by omega)) (by decide) (fun _ => (if_pos b47).symm)
    refine o_aload_n dX9_cupClause_56 rfl rfl (by rfl) ?_
    refine o_getC (q := 100) cl_X9_25 dX9_cupClause_57 rfl (by decide) (by rfl) (by rfl) ?_
    refine o_iload_n dX9_cupClause_60 rfl rfl (by rfl) ?_
    refine o_iconst (v := 3) dX9_cupClause_61 rfl (by decide) ?_
    refine o_iadd dX9_cupClause_62 rfl ?_
    refine o_aload_n dX9_cupClause_63 rfl rfl (by rfl) ?_
    refine o_bipush (v := 58) dX9_cupClause_64 rfl (by decide) ?_
    refine o_callV cs_X9_has cv_X9_133 (c_X9_has _ n _ pT1.u 58 (by decide) (by decide)) hq.2.2.2 (Nat.le_of_ble_eq_true rfl) dX9_cupClause_66 rfl (by decide) (by rfl) (by rfl) (by rfl) rfl rfl (Nat.le_of_ble_eq_true rfl) (fun rT2 mT2 hT2 => ?_)
    rw [q4.t] at hT2
    obtain ⟨eT2, fT2, pT2⟩ := hT2
    refine o_if_eq (tgt := 82) dX9_cupClause_69 (by decide) rfl (fun (c69 : rT2 = 0) => ?_) (fun (c69 : ¬ rT2 = 0) => ?_)
    · skip
      have b69 := (if10 eT2).1 c69
      refine o_iconst (v := 1) dX9_cupClause_82 rfl (by decide) ?_
      refine o_iast dX9_cupClause_83 rfl (by decide) (by rfl) (by rfl) (xbR (t := 3) hx (by omega) (by decide)) ?_
      have q5 := (q4.w fT2).u (t := 3) (ix := (x + 3).toNatClampNeg) (x := 1) (xkR (t := 3) hx (by omega)) (by decide) (fun _ => (if_neg b69).symm)
      exact o_vret hq dX9_cupClause_84 ⟨by unfold pCup; rw [if_neg b69]; exact pT2.u, q5.full (fun t ht => by omega)⟩
    · skip
      have b69 := (if10 eT2).2 c69
      refine o_aload_n dX9_cupClause_72 rfl rfl (by rfl) ?_
      refine o_iconst (v := 0) dX9_cupClause_73 rfl (by decide) ?_
      refine o_bipush (v := 99) dX9_cupClause_74 rfl (by decide) ?_
      refine o_callV cs_X9_number cv_X9_142 (c_X9_number _ n 0 99 _ pT2 (by decide) (by decide)) hq.2.2.2 (Nat.le_of_ble_eq_true rfl) dX9_cupClause_76 rfl (by decide) (by rfl) (by rfl) (by rfl) rfl rfl (Nat.le_of_ble_eq_true rfl) (fun rN mN hN => ?_)
      rw [fT2.t, q4.t] at hN
      obtain ⟨eN, fN, pN⟩ := hN
      refine o_goto (tgt := 83) dX9_cupClause_79 (by decide) ?_
      refine o_iast dX9_cupClause_83 rfl (by decide) (by rfl) (by rfl) (xbR (t := 3) hx (by omega) (by decide)) ?_
      have q5 := ((q4.w fT2).w fN).u (t := 3) (ix := (x + 3).toNatClampNeg) (x := rN) (xkR (t := 3) hx (by omega)) (by decide) (fun g9 => by unfold pCup at g9; rw [if_pos b69] at g9; rw [eN g9]; exact (if_pos b69).symm)
      exact o_vret hq dX9_cupClause_84 ⟨by unfold pCup; rw [if_pos b69]; exact pN.u, q5.full (fun t ht => by omega)⟩
set_option maxHeartbeats 4000000 in
set_option maxRecDepth 100000 in
theorem c_X9_partClause (mu : Mu) (n : Nat) (s : PSt) (hP : PSR mu n s) (x : Int32) (k : Nat) (hx : x = nI k) (hk : k + 3 ≤ 20) : ConV yX9_partClause cX9_partClause 2 3 [vC 94, vI x] mu (fun mu2 => CLR mu mu2 n k 3 (pPart (mu 99) n s) (partV (mu 99) n s)) := by
  refine conV_of (own := RX9) (by decide) rfl (Nat.le_of_ble_eq_true rfl) (fun X g hq => ?_)
  show WA X g RX9 2 cX9_partClause 0 [(0, vC 94), (1, vI x)] [] mu
  have q0 := QP.nil mu k 3 ((pPart (mu 99) n s).2 = true) (partV (mu 99) n s)
  refine o_aload_n dX9_partClause_0 rfl rfl (by rfl) ?_
  refine o_getC (q := 100) cl_X9_25 dX9_partClause_1 rfl (by decide) (by rfl) (by rfl) ?_
  refine o_iload_n dX9_partClause_4 rfl rfl (by rfl) ?_
  refine o_aload_n dX9_partClause_5 rfl rfl (by rfl) ?_
  refine o_iconst (v := 1) dX9_partClause_6 rfl (by decide) ?_
  refine o_bipush (v := 20) dX9_partClause_7 rfl (by decide) ?_
  refine o_callV cs_X9_number cv_X9_142 (c_X9_number mu n 1 20 _ hP (by decide) (by decide)) hq.2.2.2 (Nat.le_of_ble_eq_true rfl) dX9_partClause_9 rfl (by decide) (by rfl) (by rfl) (by rfl) rfl rfl (Nat.le_of_ble_eq_true rfl) (fun rN mN hN => ?_)
  obtain ⟨eN, fN, pN⟩ := hN
  refine o_iast dX9_partClause_12 rfl (by decide) (by rfl) (by rfl) (xbR0 hx (by omega) (by decide)) ?_
  have q1 := (q0.w fN).u (t := 0) (ix := x.toNatClampNeg) (xkR0 hx (by omega)) (by decide) (fun g9 => eN (pSg_ok (pSg_ok g9)))
  refine o_aload_n dX9_partClause_13 rfl rfl (by rfl) ?_
  refine o_getC (q := 100) cl_X9_25 dX9_partClause_14 rfl (by decide) (by rfl) (by rfl) ?_
  refine o_iload_n dX9_partClause_17 rfl rfl (by rfl) ?_
  refine o_iconst (v := 1) dX9_partClause_18 rfl (by decide) ?_
  refine o_iadd dX9_partClause_19 rfl ?_
  refine o_aload_n dX9_partClause_20 rfl rfl (by rfl) ?_
  refine o_callV cs_X9_signed cv_X9_139 (c_X9_signed _ n _ pN.u) hq.2.2.2 (Nat.le_of_ble_eq_true rfl) dX9_partClause_21 rfl (by decide) (by rfl) (by rfl) (by rfl) rfl rfl (Nat.le_of_ble_eq_true rfl) (fun rS1 mS1 hS1 => ?_)
  rw [q1.t] at hS1
  obtain ⟨eS1, fS1, pS1⟩ := hS1
  refine o_iast dX9_partClause_24 rfl (by decide) (by rfl) (by rfl) (xbR (t := 1) hx (by omega) (by decide)) ?_
  have q2 := (q1.w fS1).u (t := 1) (ix := (x + 1).toNatClampNeg) (xkR (t := 1) hx (by omega)) (by decide) (fun _ => eS1)
  refine o_aload_n dX9_partClause_25 rfl rfl (by rfl) ?_
  refine o_getC (q := 100) cl_X9_25 dX9_partClause_26 rfl (by decide) (by rfl) (by rfl) ?_
  refine o_iload_n dX9_partClause_29 rfl rfl (by rfl) ?_
  refine o_iconst (v := 2) dX9_partClause_30 rfl (by decide) ?_
  refine o_iadd dX9_partClause_31 rfl ?_
  refine o_aload_n dX9_partClause_32 rfl rfl (by rfl) ?_
  refine o_callV cs_X9_signed cv_X9_139 (c_X9_signed _ n _ pS1.u) hq.2.2.2 (Nat.le_of_ble_eq_true rfl) dX9_partClause_33 rfl (by decide) (by rfl) (by rfl) (by rfl) rfl rfl (Nat.le_of_ble_eq_true rfl) (fun rS2 mS2 hS2 => ?_)
  rw [q2.t] at hS2
  obtain ⟨eS2, fS2, pS2⟩ := hS2
  refine o_iast dX9_partClause_36 rfl (by decide) (by rfl) (by rfl) (xbR (t := 2) hx (by omega) (by decide)) ?_
  have q3 := (q2.w fS2).u (t := 2) (ix := (x + 2).toNatClampNeg) (xkR (t := 2) hx (by omega)) (by decide) (fun _ => eS2)
  exact o_vret hq dX9_partClause_37 ⟨pS2.u, q3.full (fun t ht => by omega)⟩
