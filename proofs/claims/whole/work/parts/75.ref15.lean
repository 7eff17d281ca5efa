/-! ===== the reference: the tape read ===== -/
def nxR (T : Vc) (n p : Nat) : Int32 := if sk T n p < n then T (sk T n p) else 0
def PSR (m : Mu) (n : Nat) (s : PSt) : Prop := m 94 8 = nI n ∧ n ≤ 60 ∧ s.1 ≤ n ∧ m 94 9 = nI s.1 ∧ m 94 10 = if s.2 = true then 0 else 1
def frW (mu m : Mu) : Prop := (∀ q, q ≠ 94 → m q = mu q) ∧ ∀ j, j ≠ 9 → j ≠ 10 → m 94 j = mu 94 j
theorem frW.rf (mu : Mu) : frW mu mu := ⟨fun _ _ => rfl, fun _ _ _ => rfl⟩
theorem frW.tr {a b c : Mu} (h : frW a b) (h2 : frW b c) : frW a c := ⟨fun q hq => (h2.1 q hq).trans (h.1 q hq), fun j h1 h3 => (h2.2 j h1 h3).trans (h.2 j h1 h3)⟩
theorem PSR.ok {m : Mu} {n : Nat} {s : PSt} (h : PSR m n s) (e : m 94 10 = 0) : s.2 = true := by
  obtain ⟨-, -, -, -, h5⟩ := h
  cases q : s.2
  · rw [q, e] at h5; exact absurd h5 (by decide)
  · rfl
theorem PSR.no {m : Mu} {n : Nat} {s : PSt} (h : PSR m n s) (e : ¬ m 94 10 = 0) : s.2 = false := by
  obtain ⟨-, -, -, -, h5⟩ := h
  cases q : s.2
  · rfl
  · rw [q] at h5; exact absurd h5 e
theorem nxR_eq {T : Vc} {n p : Nat} {b : Int32} (h0 : ¬ b = 0) (h1 : ¬ b = -1) : nxR T n p = b ↔ nx T n p = b := by
  unfold nxR nx
  split
  · exact Iff.rfl
  · exact ⟨fun h => absurd h.symm h0, fun h => absurd h.symm h1⟩
theorem nxR_in {T : Vc} {n p : Nat} : inB (nxR T n p) 48 57 = inB (nx T n p) 48 57 := by
  unfold nxR nx
  split
  · rfl
  · decide
theorem nxR_v {T : Vc} {n p : Nat} (h : inB (nx T n p) 48 57 = true) : nxR T n p = nx T n p := by
  unfold nx at h
  unfold nxR nx
  split
  · rfl
  · rename_i q
    rw [if_neg q] at h
    exact absurd h (by decide)
def HER (mu m : Mu) (n p : Nat) (r : Int32) : Prop := r = nxR (mu 99) n p ∧ (∀ q, q ≠ 94 → m q = mu q) ∧ (∀ j, j ≠ 9 → m 94 j = mu 94 j) ∧ m 94 9 = nI (sk (mu 99) n p)
set_option maxHeartbeats 4000000 in
set_option maxRecDepth 100000 in
theorem c_X9_here (mu : Mu) (n p : Nat) (en : mu 94 8 = nI n) (hn : n ≤ 60) (hp : p ≤ n) (ep : mu 94 9 = nI p) : Con yX9_here cX9_here 1 (some .int) 0 [vC 94] mu (fun r mu2 => HER mu mu2 n p r) := by
  refine con_of (own := RX9) (by decide) rfl (Nat.le_of_ble_eq_true rfl) (fun X g hq => ?_)
  show WA X g RX9 1 cX9_here 0 [(0, vC 94)] [] mu
  have LP0 : ∀ (nLP0 : Nat) (i : Nat) (m : Mu) , (i ≤ n) → ((∀ q, q ≠ 94 → m q = mu q) ∧ (∀ j, j ≠ 9 → m 94 j = mu 94 j)) → (m 94 9 = nI i) → (sk (mu 99) n i = sk (mu 99) n p) → (n < i + nLP0) → WA X g RX9 1 cX9_here 0 [(0, vC 94)] [] m := by
    intro nLP0
    induction nLP0 with
    | zero =>
      intro i m hi hF ei hs hm
      exact absurd hm (by omega)
    | succ nLP0 ihLP0 =>
      intro i m hi hF ei hs hm
      refine o_aload_n dX9_here_0 rfl rfl (by rfl) ?_
      refine o_getI cl_X9_118 dX9_here_1 rfl (by decide) (by rfl) (by rfl) ?_
      refine o_aload_n dX9_here_4 rfl rfl (by rfl) ?_
      refine o_getI cl_X9_115 dX9_here_5 rfl (by decide) (by rfl) (by rfl) ?_
      refine o_icmp_ge (tgt := 38) dX9_here_8 (by decide) rfl (fun (c8 : (m 94 8) ≤ (m 94 9)) => ?_) (fun (c8 : ¬ (m 94 8) ≤ (m 94 9)) => ?_)
      · skip
        rw [ei, hF.2 8 (by decide), en] at c8
        have hni := nI_dec2 c8 (by omega) (by omega)
        have e9 : sk (mu 99) n i = i := sk_at (fun h => by omega)
        refine o_aload_n dX9_here_38 rfl rfl (by rfl) ?_
        refine o_getI cl_X9_118 dX9_here_39 rfl (by decide) (by rfl) (by rfl) ?_
        refine o_aload_n dX9_here_42 rfl rfl (by rfl) ?_
        refine o_getI cl_X9_115 dX9_here_43 rfl (by decide) (by rfl) (by rfl) ?_
        refine o_icmp_ge (tgt := 61) dX9_here_46 (by decide) rfl (fun (c46 : (m 94 8) ≤ (m 94 9)) => ?_) (fun (c46 : ¬ (m 94 8) ≤ (m 94 9)) => ?_)
        · skip
          rw [ei, hF.2 8 (by decide), en] at c46
          have hni2 := nI_dec2 c46 (by omega) (by omega)
          refine o_iconst (v := 0) dX9_here_61 rfl (by decide) ?_
          exact o_iret hq dX9_here_62 ⟨by unfold nxR; rw [← hs, e9, if_neg (by omega)], hF.1, hF.2, by rw [← hs, e9]; exact ei⟩
        · skip
          rw [ei, hF.2 8 (by decide), en] at c46
          have hin2 := nI_dec c46 (by omega) (by omega)
          refine o_aload_n dX9_here_49 rfl rfl (by rfl) ?_
          refine o_getC (q := 99) cl_X9_22 dX9_here_50 rfl (by decide) (by rfl) (by rfl) ?_
          refine o_aload_n dX9_here_53 rfl rfl (by rfl) ?_
          refine o_getI cl_X9_118 dX9_here_54 rfl (by decide) (by rfl) (by rfl) ?_
          refine o_iald dX9_here_57 rfl (by decide) (by rfl) (by rfl) (by rw [ei]; exact vp_in_nI (by omega) (by decide)) ?_
          refine o_goto (tgt := 62) dX9_here_58 (by decide) ?_
          exact o_iret hq dX9_here_62 ⟨by unfold nxR; rw [← hs, e9, if_pos hin2, ei, nI_clamp (by omega), hF.1 99 (by decide)], hF.1, hF.2, by rw [← hs, e9]; exact ei⟩
      · skip
        rw [ei, hF.2 8 (by decide), en] at c8
        have hin := nI_dec c8 (by omega) (by omega)
        refine o_aload_n dX9_here_11 rfl rfl (by rfl) ?_
        refine o_getC (q := 99) cl_X9_22 dX9_here_12 rfl (by decide) (by rfl) (by rfl) ?_
        refine o_aload_n dX9_here_15 rfl rfl (by rfl) ?_
        refine o_getI cl_X9_118 dX9_here_16 rfl (by decide) (by rfl) (by rfl) ?_
        refine o_iald dX9_here_19 rfl (by decide) (by rfl) (by rfl) (by rw [ei]; exact vp_in_nI (by omega) (by decide)) ?_
        refine o_bipush (v := 32) dX9_here_20 rfl (by decide) ?_
        refine o_icmp_ne (tgt := 38) dX9_here_22 (by decide) rfl (fun (c22 : ¬ (m 99 (m 94 9).toNatClampNeg) = 32) => ?_) (fun (c22 : (m 99 (m 94 9).toNatClampNeg) = 32) => ?_)
        · skip
          have e9 : sk (mu 99) n i = i := sk_at (fun h => c22 (by rw [ei, nI_clamp (by omega), hF.1 99 (by decide)]; exact h.2))
          refine o_aload_n dX9_here_38 rfl rfl (by rfl) ?_
          refine o_getI cl_X9_118 dX9_here_39 rfl (by decide) (by rfl) (by rfl) ?_
          refine o_aload_n dX9_here_42 rfl rfl (by rfl) ?_
          refine o_getI cl_X9_115 dX9_here_43 rfl (by decide) (by rfl) (by rfl) ?_
          refine o_icmp_ge (tgt := 61) dX9_here_46 (by decide) rfl (fun (c46 : (m 94 8) ≤ (m 94 9)) => ?_) (fun (c46 : ¬ (m 94 8) ≤ (m 94 9)) => ?_)
          · skip
            rw [ei, hF.2 8 (by decide), en] at c46
            have hni2 := nI_dec2 c46 (by omega) (by omega)
            refine o_iconst (v := 0) dX9_here_61 rfl (by decide) ?_
            exact o_iret hq dX9_here_62 ⟨by unfold nxR; rw [← hs, e9, if_neg (by omega)], hF.1, hF.2, by rw [← hs, e9]; exact ei⟩
          · skip
            rw [ei, hF.2 8 (by decide), en] at c46
            have hin2 := nI_dec c46 (by omega) (by omega)
            refine o_aload_n dX9_here_49 rfl rfl (by rfl) ?_
            refine o_getC (q := 99) cl_X9_22 dX9_here_50 rfl (by decide) (by rfl) (by rfl) ?_
            refine o_aload_n dX9_here_53 rfl rfl (by rfl) ?_
            refine o_getI cl_X9_118 dX9_here_54 rfl (by decide) (by rfl) (by rfl) ?_
            refine o_iald dX9_here_57 rfl (by decide) (by rfl) (by rfl) (by rw [ei]; exact vp_in_nI (by omega) (by decide)) ?_
            refine o_goto (tgt := 62) dX9_here_58 (by decide) ?_
            exact o_iret hq dX9_here_62 ⟨by unfold nxR; rw [← hs, e9, if_pos hin2, ei, nI_clamp (by omega), hF.1 99 (by decide)], hF.1, hF.2, by rw [← hs, e9]; exact ei⟩
        · skip
          refine o_aload_n dX9_here_25 rfl rfl (by rfl) ?_
          refine o_dup dX9_here_26 rfl rfl ?_
          refine o_getI cl_X9_118 dX9_here_27 rfl (by decide) (by rfl) (by rfl) ?_
          refine o_iconst (v := 1) dX9_here_30 rfl (by decide) ?_
          refine o_iadd dX9_here_31 rfl ?_
          refine o_put cl_X9_118 cp_X9_9 dX9_here_32 rfl (by decide) (by rfl) (by rfl) fitI ?_
          refine o_goto (tgt := 0) dX9_here_35 (by decide) ?_
          exact ihLP0 (i + 1) _ (by omega) ⟨fun q hq9 => by rw [upF_k hq9]; exact hF.1 q hq9, fun j hj => by rw [upF_i hj]; exact hF.2 j hj⟩ (by rw [upF_s, ei, nI_1]) (by rw [← hs]; exact (sk_go hin (by rw [ei, nI_clamp (by omega), hF.1 99 (by decide)] at c22; exact c22)).symm) (by omega)
  exact LP0 (n + 1) p mu hp ⟨fun _ _ => rfl, fun _ _ => rfl⟩ ep rfl (by omega)
theorem HER.fr {mu m : Mu} {n p : Nat} {r : Int32} (h : HER mu m n p r) : frW mu m := ⟨h.2.1, fun j h1 _ => h.2.2.1 j h1⟩
theorem HER.st {mu m : Mu} {n : Nat} {s : PSt} {r : Int32} (hP : PSR mu n s) (h : HER mu m n s.1 r) : PSR m n (sk (mu 99) n s.1, s.2) := by
  obtain ⟨h1, h2, h3, h4, h5⟩ := hP
  exact ⟨by rw [h.2.2.1 8 (by decide)]; exact h1, h2, (sk_le h3).1, h.2.2.2, by rw [h.2.2.1 10 (by decide)]; exact h5⟩
theorem PSR.go {m : Mu} {n p : Nat} {b : Bool} {x : Int32} (h : PSR m n (p, b)) (hp : p + 1 ≤ n) (hx : x = nI (p + 1)) : PSR (upF m 94 9 x) n (p + 1, b) := by
  obtain ⟨h1, h2, h3, h4, h5⟩ := h
  exact ⟨by rw [upF_i (by decide)]; exact h1, h2, hp, by rw [upF_s]; exact hx, by rw [upF_i (by decide)]; exact h5⟩
theorem PSR.add0 {m : Mu} {n : Nat} {s : PSt} (h : PSR m n s) : PSR (upF m 94 9 (m 94 9 + 0)) n s := by
  obtain ⟨h1, h2, h3, h4, h5⟩ := h
  exact ⟨by rw [upF_i (by decide)]; exact h1, h2, h3, by rw [upF_s, Int32.add_zero]; exact h4, by rw [upF_i (by decide)]; exact h5⟩
theorem PSR.set {m : Mu} {n p : Nat} {b b' : Bool} {x : Int32} (h : PSR m n (p, b)) (hx : x = if b' = true then 0 else 1) : PSR (upF m 94 10 x) n (p, b') := by
  obtain ⟨h1, h2, h3, h4, h5⟩ := h
  exact ⟨by rw [upF_i (by decide)]; exact h1, h2, h3, by rw [upF_i (by decide)]; exact h4, by rw [upF_s]; exact hx⟩
theorem frW.u9 {mu m : Mu} {x : Int32} (h : frW mu m) : frW mu (upF m 94 9 x) := ⟨fun q hq => by rw [upF_k hq]; exact h.1 q hq, fun j h1 h2 => by rw [upF_i h1]; exact h.2 j h1 h2⟩
theorem frW.u10 {mu m : Mu} {x : Int32} (h : frW mu m) : frW mu (upF m 94 10 x) := ⟨fun q hq => by rw [upF_k hq]; exact h.1 q hq, fun j h1 h2 => by rw [upF_i h2]; exact h.2 j h1 h2⟩
theorem nx_in {T : Vc} {n p : Nat} {b : Int32} (h1 : ¬ b = -1) (h : nx T n p = b) : sk T n p < n := by
  unfold nx at h
  split at h
  · assumption
  · exact absurd h.symm h1
set_option maxHeartbeats 4000000 in
set_option maxRecDepth 100000 in
theorem c_X9_has (mu : Mu) (n : Nat) (s : PSt) (hP : PSR mu n s) (b : Int32) (h0b : ¬ b = 0) (h1b : ¬ b = -1) : Con yX9_has cX9_has 3 (some .boolean) 1 [vC 94, vI b] mu (fun r mu2 => r = (if (pTk (mu 99) n b s).1 = true then 1 else 0) ∧ frW mu mu2 ∧ PSR mu2 n (pTk (mu 99) n b s).2) := by
  refine con_of (own := RX9) (by decide) rfl (Nat.le_of_ble_eq_true rfl) (fun X g hq => ?_)
  show WA X g RX9 3 cX9_has 0 [(0, vC 94), (1, vI b)] [] mu
  refine o_aload_n dX9_has_0 rfl rfl (by rfl) ?_
  refine o_getI cl_X9_121 dX9_has_1 rfl (by decide) (by rfl) (by rfl) ?_
  refine o_if_ne (tgt := 19) dX9_has_4 (by decide) rfl (fun (c4 : ¬ (mu 94 10) = 0) => ?_) (fun (c4 : (mu 94 10) = 0) => ?_)
  · skip
    refine o_iconst (v := 0) dX9_has_19 rfl (by decide) ?_
    refine o_istore_n (L' := [(0, vC 94), (1, vI b), (2, vI 0)]) dX9_has_20 rfl rfl (by decide) (by rfl) (by rfl) ?_
    refine o_aload_n dX9_has_21 rfl rfl (by rfl) ?_
    refine o_dup dX9_has_22 rfl rfl ?_
    refine o_getI cl_X9_118 dX9_has_23 rfl (by decide) (by rfl) (by rfl) ?_
    refine o_iload_n dX9_has_26 rfl rfl (by rfl) ?_
    refine o_if_eq (tgt := 34) dX9_has_27 (by decide) rfl (fun (c27 : (0 : Int32) = 0) => ?_) (fun (c27 : ¬ (0 : Int32) = 0) => ?_)
    · skip
      refine o_iconst (v := 0) dX9_has_34 rfl (by decide) ?_
      refine o_iadd dX9_has_35 rfl ?_
      refine o_put cl_X9_118 cp_X9_9 dX9_has_36 rfl (by decide) (by rfl) (by rfl) fitI ?_
      refine o_iload_n dX9_has_39 rfl rfl (by rfl) ?_
      exact o_zret hq dX9_has_40 (Or.inl rfl) ⟨by rw [pTk_no (hP.no c4)]; rfl, (frW.rf mu).u9, by rw [pTk_no (hP.no c4)]; exact hP.add0⟩
    · skip
      exact absurd (by decide) c27
  · skip
    have hok := hP.ok c4
    refine o_aload_n dX9_has_7 rfl rfl (by rfl) ?_
    refine o_callV cs_X9_here cv_X9_125 (c_X9_here mu n _ hP.1 hP.2.1 hP.2.2.1 hP.2.2.2.1) hq.2.2.2 (Nat.le_of_ble_eq_true rfl) dX9_has_8 rfl (by decide) (by rfl) (by rfl) (by rfl) rfl rfl (Nat.le_of_ble_eq_true rfl) (fun rH1 mH1 hH1 => ?_)
    refine o_iload_n dX9_has_11 rfl rfl (by rfl) ?_
    refine o_icmp_ne (tgt := 19) dX9_has_12 (by decide) rfl (fun (c12 : ¬ rH1 = b) => ?_) (fun (c12 : rH1 = b) => ?_)
    · skip
      have hno : ¬ nx (mu 99) n s.1 = b := fun h9 => c12 (by rw [hH1.1]; exact (nxR_eq h0b h1b).mpr h9)
      refine o_iconst (v := 0) dX9_has_19 rfl (by decide) ?_
      refine o_istore_n (L' := [(0, vC 94), (1, vI b), (2, vI 0)]) dX9_has_20 rfl rfl (by decide) (by rfl) (by rfl) ?_
      refine o_aload_n dX9_has_21 rfl rfl (by rfl) ?_
      refine o_dup dX9_has_22 rfl rfl ?_
      refine o_getI cl_X9_118 dX9_has_23 rfl (by decide) (by rfl) (by rfl) ?_
      refine o_iload_n dX9_has_26 rfl rfl (by rfl) ?_
      refine o_if_eq (tgt := 34) dX9_has_27 (by decide) rfl (fun (c27 : (0 : Int32) = 0) => ?_) (fun (c27 : ¬ (0 : Int32) = 0) => ?_)
      · skip
        refine o_iconst (v := 0) dX9_has_34 rfl (by decide) ?_
        refine o_iadd dX9_has_35 rfl ?_
        refine o_put cl_X9_118 cp_X9_9 dX9_has_36 rfl (by decide) (by rfl) (by rfl) fitI ?_
        refine o_iload_n dX9_has_39 rfl rfl (by rfl) ?_
        exact o_zret hq dX9_has_40 (Or.inl rfl) ⟨by unfold pTk; rw [if_pos hok, if_neg hno]; rfl, hH1.fr.u9, by unfold pTk; rw [if_pos hok, if_neg hno]; have h9 := hH1.st hP; rw [hok] at h9; exact h9.add0⟩
      · skip
        exact absurd (by decide) c27
    · skip
      have hyes : nx (mu 99) n s.1 = b := (nxR_eq h0b h1b).mp (by rw [← hH1.1]; exact c12)
      refine o_iconst (v := 1) dX9_has_15 rfl (by decide) ?_
      refine o_goto (tgt := 20) dX9_has_16 (by decide) ?_
      refine o_istore_n (L' := [(0, vC 94), (1, vI b), (2, vI 1)]) dX9_has_20 rfl rfl (by decide) (by rfl) (by rfl) ?_
      refine o_aload_n dX9_has_21 rfl rfl (by rfl) ?_
      refine o_dup dX9_has_22 rfl rfl ?_
      refine o_getI cl_X9_118 dX9_has_23 rfl (by decide) (by rfl) (by rfl) ?_
      refine o_iload_n dX9_has_26 rfl rfl (by rfl) ?_
      refine o_if_eq (tgt := 34) dX9_has_27 (by decide) rfl (fun (c27 : (1 : Int32) = 0) => ?_) (fun (c27 : ¬ (1 : Int32) = 0) => ?_)
      · skip
        exact absurd c27 (by decide)
      · skip
        refine o_iconst (v := 1) dX9_has_30 rfl (by decide) ?_
        refine o_goto (tgt := 35) dX9_has_31 (by decide) ?_
        refine o_iadd dX9_has_35 rfl ?_
        refine o_put cl_X9_118 cp_X9_9 dX9_has_36 rfl (by decide) (by rfl) (by rfl) fitI ?_
        refine o_iload_n dX9_has_39 rfl rfl (by rfl) ?_
        exact o_zret hq dX9_has_40 (Or.inr rfl) ⟨by unfold pTk; rw [if_pos hok, if_pos hyes]; rfl, hH1.fr.u9, by unfold pTk; rw [if_pos hok, if_pos hyes]; have h9 := hH1.st hP; rw [hok] at h9; exact h9.go (nx_in h1b hyes) (by rw [hH1.2.2.2, nI_1])⟩
theorem sk_nxR (T : Vc) (n p : Nat) : nxR T n (sk T n p) = nxR T n p := by
  unfold nxR
  rw [sk_sk]
set_option maxHeartbeats 4000000 in
set_option maxRecDepth 100000 in
theorem c_X9_digit (mu : Mu) (n : Nat) (s : PSt) (hP : PSR mu n s) : Con yX9_digit cX9_digit 2 (some .int) 1 [vC 94] mu (fun r mu2 => r = (pDg (mu 99) n s).1 ∧ frW mu mu2 ∧ PSR mu2 n (pDg (mu 99) n s).2) := by
  refine con_of (own := RX9) (by decide) rfl (Nat.le_of_ble_eq_true rfl) (fun X g hq => ?_)
  show WA X g RX9 2 cX9_digit 0 [(0, vC 94)] [] mu
  refine o_aload_n dX9_digit_0 rfl rfl (by rfl) ?_
  refine o_aload_n dX9_digit_1 rfl rfl (by rfl) ?_
  refine o_getI cl_X9_121 dX9_digit_2 rfl (by decide) (by rfl) (by rfl) ?_
  refine o_if_ne (tgt := 25) dX9_digit_5 (by decide) rfl (fun (c5 : ¬ (mu 94 10) = 0) => ?_) (fun (c5 : (mu 94 10) = 0) => ?_)
  · skip
    refine o_iconst (v := 1) dX9_digit_25 rfl (by decide) ?_
    refine o_goto (tgt := 30) dX9_digit_26 (by decide) ?_
    refine o_put cl_X9_121 cp_X9_10 dX9_digit_30 rfl (by decide) (by rfl) (by rfl) (fitZ (Or.inr rfl)) ?_
    refine o_aload_n dX9_digit_33 rfl rfl (by rfl) ?_
    refine o_getI cl_X9_121 dX9_digit_34 rfl (by decide) (by rfl) (by rfl) ?_
    refine o_if_eq (tgt := 44) dX9_digit_37 (by decide) rfl (fun (c37 : (1 : Int32) = 0) => ?_) (fun (c37 : ¬ (1 : Int32) = 0) => ?_)
    · skip
      exact absurd c37 (by decide)
    · skip
      refine o_iconst (v := 0) dX9_digit_40 rfl (by decide) ?_
      refine o_goto (tgt := 51) dX9_digit_41 (by decide) ?_
      refine o_istore_n (L' := [(0, vC 94), (1, vI 0)]) dX9_digit_51 rfl rfl (by decide) (by rfl) (by rfl) ?_
      refine o_aload_n dX9_digit_52 rfl rfl (by rfl) ?_
      refine o_dup dX9_digit_53 rfl rfl ?_
      refine o_getI cl_X9_118 dX9_digit_54 rfl (by decide) (by rfl) (by rfl) ?_
      refine o_aload_n dX9_digit_57 rfl rfl (by rfl) ?_
      refine o_getI cl_X9_121 dX9_digit_58 rfl (by decide) (by rfl) (by rfl) ?_
      refine o_if_eq (tgt := 68) dX9_digit_61 (by decide) rfl (fun (c61 : (1 : Int32) = 0) => ?_) (fun (c61 : ¬ (1 : Int32) = 0) => ?_)
      · skip
        exact absurd c61 (by decide)
      · skip
        refine o_iconst (v := 0) dX9_digit_64 rfl (by decide) ?_
        refine o_goto (tgt := 69) dX9_digit_65 (by decide) ?_
        refine o_iadd dX9_digit_69 rfl ?_
        refine o_put cl_X9_118 cp_X9_9 dX9_digit_70 rfl (by decide) (by rfl) (by rfl) fitI ?_
        refine o_iload_n dX9_digit_73 rfl rfl (by rfl) ?_
        exact o_iret hq dX9_digit_74 ⟨by unfold pDg; rw [if_neg (by rw [hP.no c5]; decide)], (frW.rf mu).u10.u9, by unfold pDg; rw [if_neg (by rw [hP.no c5]; decide)]; exact (hP.set (b' := s.2) (by rw [hP.no c5]; rfl)).add0⟩
  · skip
    have hok := hP.ok c5
    refine o_aload_n dX9_digit_8 rfl rfl (by rfl) ?_
    refine o_callV cs_X9_here cv_X9_125 (c_X9_here mu n _ hP.1 hP.2.1 hP.2.2.1 hP.2.2.2.1) hq.2.2.2 (Nat.le_of_ble_eq_true rfl) dX9_digit_9 rfl (by decide) (by rfl) (by rfl) (by rfl) rfl rfl (Nat.le_of_ble_eq_true rfl) (fun rH1 mH1 hH1 => ?_)
    refine o_i2l dX9_digit_12 rfl ?_
    refine o_ldc2 dX9_digit_13 rfl kc_X9_129 ?_
    refine o_ldc2 dX9_digit_16 rfl kc_X9_131 ?_
    refine o_callS cs_X9_in ct_X9_71 (c_in _ rH1 48 57) hq.2.2.2 (Nat.le_of_ble_eq_true rfl) dX9_digit_19 rfl rfl rfl (Nat.le_of_ble_eq_true rfl) (fun r2 mu2 h2 => ?_)
    obtain ⟨em, h2⟩ := h2
    rw [em]
    refine o_if_ne (tgt := 29) dX9_digit_22 (by decide) rfl (fun (c22 : ¬ r2 = 0) => ?_) (fun (c22 : r2 = 0) => ?_)
    · skip
      have b22 := (if10 h2).2 c22
      have hyes : inB (nx (mu 99) n s.1) 48 57 = true := by rw [hH1.1, nxR_in] at b22; exact b22
      have hS1 : PSR (upF mH1 94 10 0) n (sk (mu 99) n s.1, true) := (hH1.st hP).set rfl
      have e99 : upF mH1 94 10 0 99 = mu 99 := by rw [upF_k (by decide)]; exact hH1.2.1 99 (by decide)
      refine o_iconst (v := 0) dX9_digit_29 rfl (by decide) ?_
      refine o_put cl_X9_121 cp_X9_10 dX9_digit_30 rfl (by decide) (by rfl) (by rfl) (fitZ (Or.inl rfl)) ?_
      refine o_aload_n dX9_digit_33 rfl rfl (by rfl) ?_
      refine o_getI cl_X9_121 dX9_digit_34 rfl (by decide) (by rfl) (by rfl) ?_
      refine o_if_eq (tgt := 44) dX9_digit_37 (by decide) rfl (fun (c37 : (0 : Int32) = 0) => ?_) (fun (c37 : ¬ (0 : Int32) = 0) => ?_)
      · skip
        refine o_aload_n dX9_digit_44 rfl rfl (by rfl) ?_
        refine o_callV cs_X9_here cv_X9_125 (c_X9_here _ n _ hS1.1 hS1.2.1 hS1.2.2.1 hS1.2.2.2.1) hq.2.2.2 (Nat.le_of_ble_eq_true rfl) dX9_digit_45 rfl (by decide) (by rfl) (by rfl) (by rfl) rfl rfl (Nat.le_of_ble_eq_true rfl) (fun rH2 mH2 hH2 => ?_)
        have hH2 : HER (upF mH1 94 10 0) mH2 n (sk (mu 99) n s.1) rH2 := hH2
        have hv2 : rH2 = nx (mu 99) n s.1 := by rw [hH2.1, e99, sk_nxR, nxR_v hyes]
        refine o_bipush (v := 48) dX9_digit_48 rfl (by decide) ?_
        refine o_isub dX9_digit_50 rfl ?_
        refine o_istore_n (L' := [(0, vC 94), (1, vI (rH2 - 48))]) dX9_digit_51 rfl rfl (by decide) (by rfl) (by rfl) ?_
        refine o_aload_n dX9_digit_52 rfl rfl (by rfl) ?_
        refine o_dup dX9_digit_53 rfl rfl ?_
        refine o_getI cl_X9_118 dX9_digit_54 rfl (by decide) (by rfl) (by rfl) ?_
        refine o_aload_n dX9_digit_57 rfl rfl (by rfl) ?_
        refine o_getI cl_X9_121 dX9_digit_58 rfl (by decide) (by rfl) (by rfl) ?_
        refine o_if_eq (tgt := 68) dX9_digit_61 (by decide) rfl (fun (c61 : (mH2 94 10) = 0) => ?_) (fun (c61 : ¬ (mH2 94 10) = 0) => ?_)
        · skip
          refine o_iconst (v := 1) dX9_digit_68 rfl (by decide) ?_
          refine o_iadd dX9_digit_69 rfl ?_
          refine o_put cl_X9_118 cp_X9_9 dX9_digit_70 rfl (by decide) (by rfl) (by rfl) fitI ?_
          refine o_iload_n dX9_digit_73 rfl rfl (by rfl) ?_
          exact o_iret hq dX9_digit_74 ⟨by unfold pDg; rw [if_pos hok, if_pos hyes, hv2], (hH1.fr.u10.tr hH2.fr).u9, by unfold pDg; rw [if_pos hok, if_pos hyes]; have h9 := hH2.st hS1; rw [e99] at h9; simp only [sk_sk] at h9; exact h9.go (in_m1 hyes).1 (by rw [hH2.2.2.2, e99]; simp only [sk_sk]; rw [nI_1])⟩
        · skip
          exact absurd (by rw [hH2.2.2.1 10 (by decide), upF_s]) c61
      · skip
        exact absurd (by decide) c37
    · skip
      have b22 := (if10 h2).1 c22
      have hno : ¬ inB (nx (mu 99) n s.1) 48 57 = true := by rw [hH1.1, nxR_in] at b22; exact b22
      refine o_iconst (v := 1) dX9_digit_25 rfl (by decide) ?_
      refine o_goto (tgt := 30) dX9_digit_26 (by decide) ?_
      refine o_put cl_X9_121 cp_X9_10 dX9_digit_30 rfl (by decide) (by rfl) (by rfl) (fitZ (Or.inr rfl)) ?_
      refine o_aload_n dX9_digit_33 rfl rfl (by rfl) ?_
      refine o_getI cl_X9_121 dX9_digit_34 rfl (by decide) (by rfl) (by rfl) ?_
      refine o_if_eq (tgt := 44) dX9_digit_37 (by decide) rfl (fun (c37 : (1 : Int32) = 0) => ?_) (fun (c37 : ¬ (1 : Int32) = 0) => ?_)
      · skip
        exact absurd c37 (by decide)
      · skip
        refine o_iconst (v := 0) dX9_digit_40 rfl (by decide) ?_
        refine o_goto (tgt := 51) dX9_digit_41 (by decide) ?_
        refine o_istore_n (L' := [(0, vC 94), (1, vI 0)]) dX9_digit_51 rfl rfl (by decide) (by rfl) (by rfl) ?_
        refine o_aload_n dX9_digit_52 rfl rfl (by rfl) ?_
        refine o_dup dX9_digit_53 rfl rfl ?_
        refine o_getI cl_X9_118 dX9_digit_54 rfl (by decide) (by rfl) (by rfl) ?_
        refine o_aload_n dX9_digit_57 rfl rfl (by rfl) ?_
        refine o_getI cl_X9_121 dX9_digit_58 rfl (by decide) (by rfl) (by rfl) ?_
        refine o_if_eq (tgt := 68) dX9_digit_61 (by decide) rfl (fun (c61 : (1 : Int32) = 0) => ?_) (fun (c61 : ¬ (1 : Int32) = 0) => ?_)
        · skip
          exact absurd c61 (by decide)
        · skip
          refine o_iconst (v := 0) dX9_digit_64 rfl (by decide) ?_
          refine o_goto (tgt := 69) dX9_digit_65 (by decide) ?_
          refine o_iadd dX9_digit_69 rfl ?_
          refine o_put cl_X9_118 cp_X9_9 dX9_digit_70 rfl (by decide) (by rfl) (by rfl) fitI ?_
          refine o_iload_n dX9_digit_73 rfl rfl (by rfl) ?_
          exact o_iret hq dX9_digit_74 ⟨by unfold pDg; rw [if_pos hok, if_neg hno], hH1.fr.u10.u9, by unfold pDg; rw [if_pos hok, if_neg hno]; exact ((hH1.st hP).set (b' := false) rfl).add0⟩
