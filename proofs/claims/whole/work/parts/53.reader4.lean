/-! ===== Reader: the whole tape, the class's face over it ===== -/
/-- the reader within its loop: i clauses read -/
def RLp (mu m : Mu) (n k c M i : Nat) (cl : PSt → PSt) (V : PSt → Vc) (s : PSt) : Prop := PS m n s ∧ (m k 1 = nI c ∧ m k 2 = nI i) ∧ (∀ q, q ≠ 70 → (q < k ∨ k + 2 + M ≤ q) → m q = mu q) ∧ (∀ j, j < i → (cl (SP cl (mu 71) n j)).2 = true → ∀ t, t < c → m (k + 2 + j) t = V (SP cl (mu 71) n j) t)
theorem RLp.go {mu m m2 : Mu} {n k c M i : Nat} {cl : PSt → PSt} {V : PSt → Vc} {s : PSt} (hk : 70 < k) (h : RLp mu m n k c M i cl V s) (h2 : fr70 m m2) {s2 : PSt} (hp : PS m2 n s2) : RLp mu m2 n k c M i cl V s2 :=
  ⟨hp, by rw [h2 k (by omega)]; exact h.2.1, fun q q1 q2 => (h2 q q1).trans (h.2.2.1 q q1 q2), fun j hj e t ht => by rw [h2 (k + 2 + j) (by omega)]; exact h.2.2.2 j hj e t ht⟩
theorem RLp.nx {mu m m2 : Mu} {n k c M i : Nat} {cl : PSt → PSt} {V : PSt → Vc} (hi : i < M) (hk : 71 < k) (h : RLp mu m n k c M i cl V (SP cl (mu 71) n i)) (h2 : CLS m m2 n k c i (cl (SP cl (mu 71) n i)) (V (SP cl (mu 71) n i))) : RLp mu m2 n k c M (i + 1) cl V (HS cl (mu 71) n (i + 1)) := by
  obtain ⟨a1, a2, a3, a4⟩ := h2
  refine ⟨a1, a2, fun q q1 q2 => (a3 q q1 (by omega) (by omega)).trans (h.2.2.1 q q1 q2), fun j hj e t ht => ?_⟩
  by_cases q : j = i
  · subst q
    exact a4 e t ht
  · rw [a3 (k + 2 + j) (by omega) (by omega) (by omega)]
    exact h.2.2.2 j (by omega) e t ht
/-- the tape read -/
def RDD (mu m : Mu) (n k c M : Nat) (cl : PSt → PSt) (V : PSt → Vc) (r : Int32) : Prop := ∃ N E, RdN cl (mu 71) n M N E ∧ E.1 ≤ n ∧ r = fnR (mu 71) n (nI N) E ∧ m 70 1 = 0 ∧ (m k 1 = nI c ∧ m k 2 = nI N) ∧ (∀ q, q ≠ 70 → (q < k ∨ k + 2 + M ≤ q) → m q = mu q) ∧ (E.2 = true → ∀ j, j < N → ∀ t, t < c → m (k + 2 + j) t = V (SP cl (mu 71) n j) t)
theorem RLp.fin {mu m m2 : Mu} {n k c M N : Nat} {cl : PSt → PSt} {V : PSt → Vc} {E : PSt} {r : Int32} (hk : 71 < k) (h : RLp mu m n k c M N cl V E) (hR : RdN cl (mu 71) n M N E) (hF : r = fnR (m 71) n (m k 2) E ∧ fr70 m m2 ∧ m2 70 1 = 0) : RDD mu m2 n k c M cl V r := by
  obtain ⟨h1, h2, h3, h4⟩ := h
  rw [h3 71 (by decide) (by omega), h2.2] at hF
  exact ⟨N, E, hR, h1.2.2.1, hF.1, hF.2.2, by rw [hF.2.1 k (by omega)]; exact h2, fun q q1 q2 => (hF.2.1 q q1).trans (h3 q q1 q2), fun e j hj t ht => by rw [hF.2.1 (k + 2 + j) (by omega)]; exact h4 j hj (hR.ok e j hj) t ht⟩
theorem PS.beg {mu : Mu} {n : Nat} (en : mu 70 1 = nI n) (hn : n ≤ 60) : PS (upF (upF mu 70 2 0) 70 3 (-1)) n (0, true) :=
  ⟨by rw [upF_i (by decide), upF_i (by decide)]; exact en, hn, Nat.zero_le _, Or.inl ⟨rfl, upF_s, by rw [upF_i (by decide), upF_s]; rfl⟩⟩
set_option maxHeartbeats 4000000 in
set_option maxRecDepth 100000 in
theorem c_X3_readCups (mu : Mu) (n : Nat) (en : mu 70 1 = nI n) (hn : n ≤ 60) (hc : mu 72 1 = nI 5) : Con yX3_readCups cX3_readCups 2 (some .int) 4 [vC 70] mu (fun r mu2 => RDD mu mu2 n 72 5 4 (pCup (mu 71) n) (cupV (mu 71) n) r) := by
  refine con_of (own := RX3) (by decide) rfl (Nat.le_of_ble_eq_true rfl) (fun X g hq => ?_)
  show WA X g RX3 2 cX3_readCups 0 [(0, vC 70)] [] mu
  refine o_aload_n dX3_readCups_0 rfl rfl (by rfl) ?_
  refine o_callVV cs_X3_begin cv_X3_31 (c_X3_begin _) hq.2.2.2 (Nat.le_of_ble_eq_true rfl) dX3_readCups_1 rfl (by decide) (by rfl) (by rfl) (by rfl) rfl rfl (Nat.le_of_ble_eq_true rfl) (fun mB hB => ?_)
  subst hB
  refine o_aload_n dX3_readCups_4 rfl rfl (by rfl) ?_
  refine o_getC (q := 72) cl_X3_20 dX3_readCups_5 rfl (by decide) (by rfl) (by rfl) ?_
  refine o_callV cs_X6_empty cv_X3_34 (c_X6_empty 72 4 5 tab72 _) hq.2.2.2 (Nat.le_of_ble_eq_true rfl) dX3_readCups_8 rfl (by decide) (by rfl) (by rfl) (by rfl) rfl rfl (Nat.le_of_ble_eq_true rfl) (fun rE mE hE => ?_)
  obtain ⟨hE, -⟩ := hE
  subst hE
  have hL0 : RLp mu (upF (upF (upF mu 70 2 0) 70 3 (-1)) 72 2 0) n 72 5 4 0 (pCup (mu 71) n) (cupV (mu 71) n) (HS (pCup (mu 71) n) (mu 71) n 0) := ⟨(PS.beg en hn).cg (upF_k (by decide)), ⟨by rw [upF_i (by decide), upF_k (by decide), upF_k (by decide)]; exact hc, by rw [upF_s]; rfl⟩, fun q q1 q2 => by rw [upF_k (by omega), upF_k q1, upF_k q1], fun j hj => by omega⟩
  refine o_pop dX3_readCups_11 rfl rfl ?_
  refine o_iconst (v := 0) dX3_readCups_12 rfl (by decide) ?_
  refine o_istore_n (L' := [(0, vC 70), (1, vI 0)]) dX3_readCups_13 rfl rfl (by decide) (by rfl) (by rfl) ?_
  have LP14 : ∀ (nLP14 : Nat) (i : Nat) (m : Mu) , (i ≤ 4) → (RLp mu m n 72 5 4 i (pCup (mu 71) n) (cupV (mu 71) n) (HS (pCup (mu 71) n) (mu 71) n i)) → (∀ j, j + 1 < i → Mor (pCup (mu 71) n) (mu 71) n j) → (4 < i + nLP14) → WA X g RX3 2 cX3_readCups 14 [(0, vC 70), (1, vI (nI i))] [] m := by
    intro nLP14
    induction nLP14 with
    | zero =>
      intro i m hi hL hM hm
      exact absurd hm (by omega)
    | succ nLP14 ihLP14 =>
      intro i m hi hL hM hm
      refine o_iload_n dX3_readCups_14 rfl rfl (by rfl) ?_
      refine o_iconst (v := 4) dX3_readCups_15 rfl (by decide) ?_
      refine o_icmp_ge (tgt := 42) dX3_readCups_16 (by decide) rfl (fun (c16 : 4 ≤ (nI i)) => ?_) (fun (c16 : ¬ 4 ≤ (nI i)) => ?_)
      · skip
        have hi2 := nI_dec2 (b := 4) c16 (by omega) (by decide)
        refine o_aload_n dX3_readCups_42 rfl rfl (by rfl) ?_
        refine o_aload_n dX3_readCups_43 rfl rfl (by rfl) ?_
        refine o_getC (q := 72) cl_X3_20 dX3_readCups_44 rfl (by decide) (by rfl) (by rfl) ?_
        refine o_getI cl_X3_45 dX3_readCups_47 rfl (by decide) (by rfl) (by rfl) ?_
        refine o_callV cs_X3_finish cv_X3_46 (c_X3_finish m n _ hL.1 _) hq.2.2.2 (Nat.le_of_ble_eq_true rfl) dX3_readCups_50 rfl (by decide) (by rfl) (by rfl) (by rfl) rfl rfl (Nat.le_of_ble_eq_true rfl) (fun rF mF hF => ?_)
        have hD := hL.fin (M := 4) (by decide) ⟨by omega, by omega, hM, Or.inl ⟨by omega, by rw [show i = 4 by omega]⟩⟩ hF
        exact o_iret hq dX3_readCups_53 hD
      · skip
        have hi2 := nI_dec (b := 4) c16 (by omega) (by decide)
        refine o_iload_n dX3_readCups_19 rfl rfl (by rfl) ?_
        refine o_if_eq (tgt := 32) dX3_readCups_20 (by decide) rfl (fun (c20 : (nI i) = 0) => ?_) (fun (c20 : ¬ (nI i) = 0) => ?_)
        · skip
          have hz0 : i = 0 := (nI_eq (b := 0) (by omega) (by decide)).mp c20
          have hL9 : RLp mu m n 72 5 4 i (pCup (mu 71) n) (cupV (mu 71) n) (SP (pCup (mu 71) n) (mu 71) n i) := by rw [hz0] at hL ⊢; exact hL
          clear hL
          have hL := hL9
          refine o_aload_n dX3_readCups_32 rfl rfl (by rfl) ?_
          refine o_callVV cs_X3_readCup cv_X3_42 (c_X3_readCup m n (SP (pCup (mu 71) n) (mu 71) n i) hL.1 i hL.2.1.1 hL.2.1.2 (by omega)) hq.2.2.2 (Nat.le_of_ble_eq_true rfl) dX3_readCups_33 rfl (by decide) (by rfl) (by rfl) (by rfl) rfl rfl (Nat.le_of_ble_eq_true rfl) (fun mC hC => ?_)
          rw [hL.2.2.1 71 (by decide) (by decide)] at hC
          have hL3 := hL.nx (by omega) (by decide) hC
          refine o_iinc (v := nI (i + 1)) (L' := [(0, vC 70), (1, vI (nI (i + 1)))]) dX3_readCups_36 rfl (by rfl) (by exact nI_1 i) (by decide) (by rfl) (by rfl) ?_
          refine o_goto (tgt := 14) dX3_readCups_39 (by decide) ?_
          exact ihLP14 (i + 1) _ (by omega) hL3 (fun j hj => by omega) (by omega)
        · skip
          have hz0 : ¬ i = 0 := fun e9 => c20 (by rw [e9]; rfl)
          refine o_aload_n dX3_readCups_23 rfl rfl (by rfl) ?_
          refine o_bipush (v := 59) dX3_readCups_24 rfl (by decide) ?_
          refine o_callV cs_X3_takes cv_X3_38 (c_X3_takes m n _ hL.1 59 (by decide)) hq.2.2.2 (Nat.le_of_ble_eq_true rfl) dX3_readCups_26 rfl (by decide) (by rfl) (by rfl) (by rfl) rfl rfl (Nat.le_of_ble_eq_true rfl) (fun rT mT hT => ?_)
          obtain ⟨eT, fT, pT⟩ := hT
          rw [hL.2.2.1 71 (by decide) (by decide)] at eT pT
          obtain ⟨i0, ei0⟩ : ∃ i0, i = i0 + 1 := ⟨i - 1, by omega⟩
          have hL2 : RLp mu mT n 72 5 4 i (pCup (mu 71) n) (cupV (mu 71) n) (SP (pCup (mu 71) n) (mu 71) n i) := hL.go (by decide) fT (by rw [ei0] at pT ⊢; exact pT)
          refine o_if_eq (tgt := 42) dX3_readCups_29 (by decide) rfl (fun (c29 : rT = 0) => ?_) (fun (c29 : ¬ rT = 0) => ?_)
          · skip
            have b29 := (if10 eT).1 c29
            have hno : ¬ Mor (pCup (mu 71) n) (mu 71) n (i - 1) := by rw [ei0] at b29 ⊢; exact b29
            refine o_aload_n dX3_readCups_42 rfl rfl (by rfl) ?_
            refine o_aload_n dX3_readCups_43 rfl rfl (by rfl) ?_
            refine o_getC (q := 72) cl_X3_20 dX3_readCups_44 rfl (by decide) (by rfl) (by rfl) ?_
            refine o_getI cl_X3_45 dX3_readCups_47 rfl (by decide) (by rfl) (by rfl) ?_
            refine o_callV cs_X3_finish cv_X3_46 (c_X3_finish mT n _ hL2.1 _) hq.2.2.2 (Nat.le_of_ble_eq_true rfl) dX3_readCups_50 rfl (by decide) (by rfl) (by rfl) (by rfl) rfl rfl (Nat.le_of_ble_eq_true rfl) (fun rF mF hF => ?_)
            have hD := hL2.fin (M := 4) (by decide) ⟨by omega, by omega, hM, Or.inr ⟨by omega, hno, rfl⟩⟩ hF
            exact o_iret hq dX3_readCups_53 hD
          · skip
            have b29 := (if10 eT).2 c29
            have hyes : Mor (pCup (mu 71) n) (mu 71) n (i - 1) := by rw [ei0] at b29 ⊢; exact b29
            refine o_aload_n dX3_readCups_32 rfl rfl (by rfl) ?_
            refine o_callVV cs_X3_readCup cv_X3_42 (c_X3_readCup mT n (SP (pCup (mu 71) n) (mu 71) n i) hL2.1 i hL2.2.1.1 hL2.2.1.2 (by omega)) hq.2.2.2 (Nat.le_of_ble_eq_true rfl) dX3_readCups_33 rfl (by decide) (by rfl) (by rfl) (by rfl) rfl rfl (Nat.le_of_ble_eq_true rfl) (fun mC hC => ?_)
            rw [hL2.2.2.1 71 (by decide) (by decide)] at hC
            have hL3 := hL2.nx (by omega) (by decide) hC
            refine o_iinc (v := nI (i + 1)) (L' := [(0, vC 70), (1, vI (nI (i + 1)))]) dX3_readCups_36 rfl (by rfl) (by exact nI_1 i) (by decide) (by rfl) (by rfl) ?_
            refine o_goto (tgt := 14) dX3_readCups_39 (by decide) ?_
            exact ihLP14 (i + 1) _ (by omega) hL3 (fun j hj => if e9 : j + 1 < i then hM j e9 else (show j = i - 1 by omega) ▸ hyes) (by omega)
  exact LP14 5 0 _ (by omega) hL0 (fun j hj => by omega) (by omega)
set_option maxHeartbeats 4000000 in
set_option maxRecDepth 100000 in
theorem c_X3_readParts (mu : Mu) (n : Nat) (en : mu 70 1 = nI n) (hn : n ≤ 60) (hc : mu 78 1 = nI 3) : Con yX3_readParts cX3_readParts 2 (some .int) 4 [vC 70] mu (fun r mu2 => RDD mu mu2 n 78 3 6 (pPart (mu 71) n) (partV (mu 71) n) r) := by
  refine con_of (own := RX3) (by decide) rfl (Nat.le_of_ble_eq_true rfl) (fun X g hq => ?_)
  show WA X g RX3 2 cX3_readParts 0 [(0, vC 70)] [] mu
  refine o_aload_n dX3_readParts_0 rfl rfl (by rfl) ?_
  refine o_callVV cs_X3_begin cv_X3_31 (c_X3_begin _) hq.2.2.2 (Nat.le_of_ble_eq_true rfl) dX3_readParts_1 rfl (by decide) (by rfl) (by rfl) (by rfl) rfl rfl (Nat.le_of_ble_eq_true rfl) (fun mB hB => ?_)
  subst hB
  refine o_aload_n dX3_readParts_4 rfl rfl (by rfl) ?_
  refine o_getC (q := 78) cl_X3_24 dX3_readParts_5 rfl (by decide) (by rfl) (by rfl) ?_
  refine o_callV cs_X6_empty cv_X3_34 (c_X6_empty 78 6 3 tab78 _) hq.2.2.2 (Nat.le_of_ble_eq_true rfl) dX3_readParts_8 rfl (by decide) (by rfl) (by rfl) (by rfl) rfl rfl (Nat.le_of_ble_eq_true rfl) (fun rE mE hE => ?_)
  obtain ⟨hE, -⟩ := hE
  subst hE
  have hL0 : RLp mu (upF (upF (upF mu 70 2 0) 70 3 (-1)) 78 2 0) n 78 3 6 0 (pPart (mu 71) n) (partV (mu 71) n) (HS (pPart (mu 71) n) (mu 71) n 0) := ⟨(PS.beg en hn).cg (upF_k (by decide)), ⟨by rw [upF_i (by decide), upF_k (by decide), upF_k (by decide)]; exact hc, by rw [upF_s]; rfl⟩, fun q q1 q2 => by rw [upF_k (by omega), upF_k q1, upF_k q1], fun j hj => by omega⟩
  refine o_pop dX3_readParts_11 rfl rfl ?_
  refine o_iconst (v := 0) dX3_readParts_12 rfl (by decide) ?_
  refine o_istore_n (L' := [(0, vC 70), (1, vI 0)]) dX3_readParts_13 rfl rfl (by decide) (by rfl) (by rfl) ?_
  have LP14 : ∀ (nLP14 : Nat) (i : Nat) (m : Mu) , (i ≤ 6) → (RLp mu m n 78 3 6 i (pPart (mu 71) n) (partV (mu 71) n) (HS (pPart (mu 71) n) (mu 71) n i)) → (∀ j, j + 1 < i → Mor (pPart (mu 71) n) (mu 71) n j) → (6 < i + nLP14) → WA X g RX3 2 cX3_readParts 14 [(0, vC 70), (1, vI (nI i))] [] m := by
    intro nLP14
    induction nLP14 with
    | zero =>
      intro i m hi hL hM hm
      exact absurd hm (by omega)
    | succ nLP14 ihLP14 =>
      intro i m hi hL hM hm
      refine o_iload_n dX3_readParts_14 rfl rfl (by rfl) ?_
      refine o_bipush (v := 6) dX3_readParts_15 rfl (by decide) ?_
      refine o_icmp_ge (tgt := 43) dX3_readParts_17 (by decide) rfl (fun (c17 : 6 ≤ (nI i)) => ?_) (fun (c17 : ¬ 6 ≤ (nI i)) => ?_)
      · skip
        have hi2 := nI_dec2 (b := 6) c17 (by omega) (by decide)
        refine o_aload_n dX3_readParts_43 rfl rfl (by rfl) ?_
        refine o_aload_n dX3_readParts_44 rfl rfl (by rfl) ?_
        refine o_getC (q := 78) cl_X3_24 dX3_readParts_45 rfl (by decide) (by rfl) (by rfl) ?_
        refine o_getI cl_X3_45 dX3_readParts_48 rfl (by decide) (by rfl) (by rfl) ?_
        refine o_callV cs_X3_finish cv_X3_46 (c_X3_finish m n _ hL.1 _) hq.2.2.2 (Nat.le_of_ble_eq_true rfl) dX3_readParts_51 rfl (by decide) (by rfl) (by rfl) (by rfl) rfl rfl (Nat.le_of_ble_eq_true rfl) (fun rF mF hF => ?_)
        have hD := hL.fin (M := 6) (by decide) ⟨by omega, by omega, hM, Or.inl ⟨by omega, by rw [show i = 6 by omega]⟩⟩ hF
        exact o_iret hq dX3_readParts_54 hD
      · skip
        have hi2 := nI_dec (b := 6) c17 (by omega) (by decide)
        refine o_iload_n dX3_readParts_20 rfl rfl (by rfl) ?_
        refine o_if_eq (tgt := 33) dX3_readParts_21 (by decide) rfl (fun (c21 : (nI i) = 0) => ?_) (fun (c21 : ¬ (nI i) = 0) => ?_)
        · skip
          have hz0 : i = 0 := (nI_eq (b := 0) (by omega) (by decide)).mp c21
          have hL9 : RLp mu m n 78 3 6 i (pPart (mu 71) n) (partV (mu 71) n) (SP (pPart (mu 71) n) (mu 71) n i) := by rw [hz0] at hL ⊢; exact hL
          clear hL
          have hL := hL9
          refine o_aload_n dX3_readParts_33 rfl rfl (by rfl) ?_
          refine o_callVV cs_X3_readPart cv_X3_50 (c_X3_readPart m n (SP (pPart (mu 71) n) (mu 71) n i) hL.1 i hL.2.1.1 hL.2.1.2 (by omega)) hq.2.2.2 (Nat.le_of_ble_eq_true rfl) dX3_readParts_34 rfl (by decide) (by rfl) (by rfl) (by rfl) rfl rfl (Nat.le_of_ble_eq_true rfl) (fun mC hC => ?_)
          rw [hL.2.2.1 71 (by decide) (by decide)] at hC
          have hL3 := hL.nx (by omega) (by decide) hC
          refine o_iinc (v := nI (i + 1)) (L' := [(0, vC 70), (1, vI (nI (i + 1)))]) dX3_readParts_37 rfl (by rfl) (by exact nI_1 i) (by decide) (by rfl) (by rfl) ?_
          refine o_goto (tgt := 14) dX3_readParts_40 (by decide) ?_
          exact ihLP14 (i + 1) _ (by omega) hL3 (fun j hj => by omega) (by omega)
        · skip
          have hz0 : ¬ i = 0 := fun e9 => c21 (by rw [e9]; rfl)
          refine o_aload_n dX3_readParts_24 rfl rfl (by rfl) ?_
          refine o_bipush (v := 59) dX3_readParts_25 rfl (by decide) ?_
          refine o_callV cs_X3_takes cv_X3_38 (c_X3_takes m n _ hL.1 59 (by decide)) hq.2.2.2 (Nat.le_of_ble_eq_true rfl) dX3_readParts_27 rfl (by decide) (by rfl) (by rfl) (by rfl) rfl rfl (Nat.le_of_ble_eq_true rfl) (fun rT mT hT => ?_)
          obtain ⟨eT, fT, pT⟩ := hT
          rw [hL.2.2.1 71 (by decide) (by decide)] at eT pT
          obtain ⟨i0, ei0⟩ : ∃ i0, i = i0 + 1 := ⟨i - 1, by omega⟩
          have hL2 : RLp mu mT n 78 3 6 i (pPart (mu 71) n) (partV (mu 71) n) (SP (pPart (mu 71) n) (mu 71) n i) := hL.go (by decide) fT (by rw [ei0] at pT ⊢; exact pT)
          refine o_if_eq (tgt := 43) dX3_readParts_30 (by decide) rfl (fun (c30 : rT = 0) => ?_) (fun (c30 : ¬ rT = 0) => ?_)
          · skip
            have b30 := (if10 eT).1 c30
            have hno : ¬ Mor (pPart (mu 71) n) (mu 71) n (i - 1) := by rw [ei0] at b30 ⊢; exact b30
            refine o_aload_n dX3_readParts_43 rfl rfl (by rfl) ?_
            refine o_aload_n dX3_readParts_44 rfl rfl (by rfl) ?_
            refine o_getC (q := 78) cl_X3_24 dX3_readParts_45 rfl (by decide) (by rfl) (by rfl) ?_
            refine o_getI cl_X3_45 dX3_readParts_48 rfl (by decide) (by rfl) (by rfl) ?_
            refine o_callV cs_X3_finish cv_X3_46 (c_X3_finish mT n _ hL2.1 _) hq.2.2.2 (Nat.le_of_ble_eq_true rfl) dX3_readParts_51 rfl (by decide) (by rfl) (by rfl) (by rfl) rfl rfl (Nat.le_of_ble_eq_true rfl) (fun rF mF hF => ?_)
            have hD := hL2.fin (M := 6) (by decide) ⟨by omega, by omega, hM, Or.inr ⟨by omega, hno, rfl⟩⟩ hF
            exact o_iret hq dX3_readParts_54 hD
          · skip
            have b30 := (if10 eT).2 c30
            have hyes : Mor (pPart (mu 71) n) (mu 71) n (i - 1) := by rw [ei0] at b30 ⊢; exact b30
            refine o_aload_n dX3_readParts_33 rfl rfl (by rfl) ?_
            refine o_callVV cs_X3_readPart cv_X3_50 (c_X3_readPart mT n (SP (pPart (mu 71) n) (mu 71) n i) hL2.1 i hL2.2.1.1 hL2.2.1.2 (by omega)) hq.2.2.2 (Nat.le_of_ble_eq_true rfl) dX3_readParts_34 rfl (by decide) (by rfl) (by rfl) (by rfl) rfl rfl (Nat.le_of_ble_eq_true rfl) (fun mC hC => ?_)
            rw [hL2.2.2.1 71 (by decide) (by decide)] at hC
            have hL3 := hL2.nx (by omega) (by decide) hC
            refine o_iinc (v := nI (i + 1)) (L' := [(0, vC 70), (1, vI (nI (i + 1)))]) dX3_readParts_37 rfl (by rfl) (by exact nI_1 i) (by decide) (by rfl) (by rfl) ?_
            refine o_goto (tgt := 14) dX3_readParts_40 (by decide) ?_
            exact ihLP14 (i + 1) _ (by omega) hL3 (fun j hj => if e9 : j + 1 < i then hM j e9 else (show j = i - 1 by omega) ▸ hyes) (by omega)
  exact LP14 7 0 _ (by omega) hL0 (fun j hj => by omega) (by omega)
/-- toy and pulls -/
def TYR (mu m : Mu) (n k k2 c M : Nat) (cl : PSt → PSt) (V : PSt → Vc) (r : Int32) : Prop := ∃ N E, RdN cl (mu 71) n M N E ∧ r = fnR (mu 71) n (nI N) E ∧ m 70 1 = 0 ∧ m k 1 = nI c ∧ (∀ q, q ≠ 70 → (q < k ∨ k + 2 + M ≤ q) → (q < k2 ∨ k2 + 2 + M ≤ q) → m q = mu q) ∧ ((E.2 = true ∧ nx (mu 71) n E.1 = -1 ∧ m k2 2 = nI N ∧ m k2 1 = nI c ∧ ∀ j, j < N → ∀ t, t < c → m (k2 + 2 + j) t = V (SP cl (mu 71) n j) t) ∨ (¬ (E.2 = true ∧ nx (mu 71) n E.1 = -1) ∧ ∀ q, k2 ≤ q → q < k2 + 2 + M → m q = mu q))
theorem fn_pos {T : Vc} {n N : Nat} {E : PSt} (hn : n ≤ 60) (hE : E.1 ≤ n) (h1 : 1 ≤ N) (h2 : N ≤ 6) : (fnR T n (nI N) E ≤ 0 ↔ ¬ (E.2 = true ∧ nx T n E.1 = -1)) := by
  have key : ∀ p : Nat, p ≤ 60 → (-20 - nI p : Int32) ≤ 0 := by decide +kernel
  have key2 : ∀ p : Nat, p ≤ 6 → 1 ≤ p → ¬ nI p ≤ (0 : Int32) := by decide +kernel
  unfold fnR
  by_cases a : E.2 = true
  · rw [if_pos a]
    by_cases b : nx T n E.1 = -1
    · rw [if_pos b]
      exact ⟨fun h => absurd h (key2 N h2 h1), fun h => absurd ⟨a, b⟩ h⟩
    · rw [if_neg b]
      exact ⟨fun _ h => b h.2, fun _ => key _ (by have := (sk_le (T := T) hE).1; omega)⟩
  · rw [if_neg a]
    exact ⟨fun _ h => a h.1, fun _ => key _ (by omega)⟩
theorem TYR.no {mu m : Mu} {n k k2 c M : Nat} {cl : PSt → PSt} {V : PSt → Vc} {r : Int32} (hn : n ≤ 60) (hM : M ≤ 6) (hk : k2 + 2 + M ≤ k ∧ k2 + 2 + M ≤ 70) (h : RDD mu m n k c M cl V r) (hr : r ≤ 0) : TYR mu m n k k2 c M cl V r := by
  obtain ⟨N, E, h1, hE, h2, h3, h4, h5, h6⟩ := h
  subst h2
  exact ⟨N, E, h1, rfl, h3, h4.1, fun q q1 q2 _ => h5 q q1 q2, Or.inr ⟨(fn_pos hn hE h1.1 (Nat.le_trans h1.2.1 hM)).mp hr, fun q q1 q2 => h5 q (by omega) (by omega)⟩⟩
theorem TYR.yes {mu m m2 : Mu} {n k k2 c M : Nat} {cl : PSt → PSt} {V : PSt → Vc} {r : Int32} (hn : n ≤ 60) (hM : M ≤ 6) (hk : k2 + 2 + M ≤ k ∧ k2 + 2 + M ≤ 70) (h : RDD mu m n k c M cl V r) (hr : ¬ r ≤ 0) (h2 : ∀ N, m k 2 = nI N → N ≤ M → CP m m2 k2 k M c N N 0) : TYR mu m2 n k k2 c M cl V r := by
  obtain ⟨N, E, h1, hE, e2, h3, h4, h5, h6⟩ := h
  subst e2
  have hq := Decidable.not_not.mp (fun h => hr ((fn_pos hn hE h1.1 (Nat.le_trans h1.2.1 hM)).mpr h))
  obtain ⟨c1, c2, c3, c4, -⟩ := h2 N h4.2 h1.2.1
  exact ⟨N, E, h1, rfl, by rw [c3 70 (by omega)]; exact h3, by rw [c3 k (by omega)]; exact h4.1, fun q q1 q2 q3 => (c3 q q3).trans (h5 q q1 q2), Or.inl ⟨hq.1, hq.2, c1, c2, fun j hj t ht => (c4 j t hj ht).trans (h6 hq.1 j hj t ht)⟩⟩
theorem RDD.t {mu m : Mu} {n k c M : Nat} {cl : PSt → PSt} {V : PSt → Vc} {r : Int32} (h : RDD mu m n k c M cl V r) : m k 1 = nI c ∧ ∃ N, m k 2 = nI N ∧ N ≤ M := by
  obtain ⟨N, E, h1, hE, e2, h3, h4, h5, h6⟩ := h
  exact ⟨h4.1, N, h4.2, h1.2.1⟩
set_option maxHeartbeats 4000000 in
set_option maxRecDepth 100000 in
theorem c_X8_toy (mu : Mu) (n : Nat) (en : mu 70 1 = nI n) (hn : n ≤ 60) (hc : mu 72 1 = nI 5) (hc2 : mu 3 1 = nI 5) : Con yX8_toy cX8_toy 2 (some .int) 5 [vC 0] mu (fun r mu2 => TYR mu mu2 n 72 3 5 4 (pCup (mu 71) n) (cupV (mu 71) n) r) := by
  refine con_of (own := RX8) (by decide) rfl (Nat.le_of_ble_eq_true rfl) (fun X g hq => ?_)
  show WA X g RX8 2 cX8_toy 0 [(0, vC 0)] [] mu
  refine o_aload_n dX8_toy_0 rfl rfl (by rfl) ?_
  refine o_getC (q := 70) cl_X8_49 dX8_toy_1 rfl (by decide) (by rfl) (by rfl) ?_
  refine o_callV cs_X3_readCups cv_X8_123 (c_X3_readCups mu n en hn hc) hq.2.2.2 (Nat.le_of_ble_eq_true rfl) dX8_toy_4 rfl (by decide) (by rfl) (by rfl) (by rfl) rfl rfl (Nat.le_of_ble_eq_true rfl) (fun rA mA hA => ?_)
  obtain ⟨tA, N, eN, lN⟩ := hA.t
  have h20 : mA 3 1 = nI 5 := by obtain ⟨_, _, _, _, _, _, _, h5, _⟩ := hA; rw [h5 3 (by decide) (by decide)]; exact hc2
  refine o_istore_n (L' := [(0, vC 0), (1, vI rA)]) dX8_toy_7 rfl rfl (by decide) (by rfl) (by rfl) ?_
  refine o_iload_n dX8_toy_8 rfl rfl (by rfl) ?_
  refine o_if_le (tgt := 29) dX8_toy_9 (by decide) rfl (fun (c9 : rA ≤ 0) => ?_) (fun (c9 : ¬ rA ≤ 0) => ?_)
  · skip
    refine o_iload_n dX8_toy_29 rfl rfl (by rfl) ?_
    exact o_iret hq dX8_toy_30 (TYR.no hn (by decide) (by decide) hA c9)
  · skip
    refine o_aload_n dX8_toy_12 rfl rfl (by rfl) ?_
    refine o_getC (q := 1) cl_X8_10 dX8_toy_13 rfl (by decide) (by rfl) (by rfl) ?_
    refine o_getC (q := 3) cl_X8_74 dX8_toy_16 rfl (by decide) (by rfl) (by rfl) ?_
    refine o_aload_n dX8_toy_19 rfl rfl (by rfl) ?_
    refine o_getC (q := 70) cl_X8_49 dX8_toy_20 rfl (by decide) (by rfl) (by rfl) ?_
    refine o_getC (q := 72) cl_X8_126 dX8_toy_23 rfl (by decide) (by rfl) (by rfl) ?_
    refine o_callVV cs_X6_takeAll cv_X8_127 (c_X6_takeAll 3 72 4 5 N tab3 tab72 (by decide) mA h20 tA lN eN) hq.2.2.2 (Nat.le_of_ble_eq_true rfl) dX8_toy_26 rfl (by decide) (by rfl) (by rfl) (by rfl) rfl rfl (Nat.le_of_ble_eq_true rfl) (fun mC hC => ?_)
    refine o_iload_n dX8_toy_29 rfl rfl (by rfl) ?_
    exact o_iret hq dX8_toy_30 (TYR.yes hn (by decide) (by decide) hA c9 (fun N2 e2 l2 => (nI_eq (by omega) (by omega)).mp (eN.symm.trans e2) ▸ hC))
set_option maxHeartbeats 4000000 in
set_option maxRecDepth 100000 in
theorem c_X8_pulls (mu : Mu) (n : Nat) (en : mu 70 1 = nI n) (hn : n ≤ 60) (hc : mu 78 1 = nI 3) (hc2 : mu 9 1 = nI 3) : Con yX8_pulls cX8_pulls 2 (some .int) 5 [vC 0] mu (fun r mu2 => TYR mu mu2 n 78 9 3 6 (pPart (mu 71) n) (partV (mu 71) n) r) := by
  refine con_of (own := RX8) (by decide) rfl (Nat.le_of_ble_eq_true rfl) (fun X g hq => ?_)
  show WA X g RX8 2 cX8_pulls 0 [(0, vC 0)] [] mu
  refine o_aload_n dX8_pulls_0 rfl rfl (by rfl) ?_
  refine o_getC (q := 70) cl_X8_49 dX8_pulls_1 rfl (by decide) (by rfl) (by rfl) ?_
  refine o_callV cs_X3_readParts cv_X8_131 (c_X3_readParts mu n en hn hc) hq.2.2.2 (Nat.le_of_ble_eq_true rfl) dX8_pulls_4 rfl (by decide) (by rfl) (by rfl) (by rfl) rfl rfl (Nat.le_of_ble_eq_true rfl) (fun rA mA hA => ?_)
  obtain ⟨tA, N, eN, lN⟩ := hA.t
  have h20 : mA 9 1 = nI 3 := by obtain ⟨_, _, _, _, _, _, _, h5, _⟩ := hA; rw [h5 9 (by decide) (by decide)]; exact hc2
  refine o_istore_n (L' := [(0, vC 0), (1, vI rA)]) dX8_pulls_7 rfl rfl (by decide) (by rfl) (by rfl) ?_
  refine o_iload_n dX8_pulls_8 rfl rfl (by rfl) ?_
  refine o_if_le (tgt := 29) dX8_pulls_9 (by decide) rfl (fun (c9 : rA ≤ 0) => ?_) (fun (c9 : ¬ rA ≤ 0) => ?_)
  · skip
    refine o_iload_n dX8_pulls_29 rfl rfl (by rfl) ?_
    exact o_iret hq dX8_pulls_30 (TYR.no hn (by decide) (by decide) hA c9)
  · skip
    refine o_aload_n dX8_pulls_12 rfl rfl (by rfl) ?_
    refine o_getC (q := 1) cl_X8_10 dX8_pulls_13 rfl (by decide) (by rfl) (by rfl) ?_
    refine o_getC (q := 9) cl_X8_97 dX8_pulls_16 rfl (by decide) (by rfl) (by rfl) ?_
    refine o_aload_n dX8_pulls_19 rfl rfl (by rfl) ?_
    refine o_getC (q := 70) cl_X8_49 dX8_pulls_20 rfl (by decide) (by rfl) (by rfl) ?_
    refine o_getC (q := 78) cl_X8_134 dX8_pulls_23 rfl (by decide) (by rfl) (by rfl) ?_
    refine o_callVV cs_X6_takeAll cv_X8_127 (c_X6_takeAll 9 78 6 3 N tab9 tab78 (by decide) mA h20 tA lN eN) hq.2.2.2 (Nat.le_of_ble_eq_true rfl) dX8_pulls_26 rfl (by decide) (by rfl) (by rfl) (by rfl) rfl rfl (Nat.le_of_ble_eq_true rfl) (fun mC hC => ?_)
    refine o_iload_n dX8_pulls_29 rfl rfl (by rfl) ?_
    exact o_iret hq dX8_pulls_30 (TYR.yes hn (by decide) (by decide) hA c9 (fun N2 e2 l2 => (nI_eq (by omega) (by omega)).mp (eN.symm.trans e2) ▸ hC))
