/-! ===== Reader: clauses, the whole tape ===== -/
abbrev cD (T : Vc) (n : Nat) (s : PSt) : PSt := (pDg T n (pSg T n (pSg T n s).2).2).2
abbrev cE (T : Vc) (n : Nat) (s : PSt) : PSt := (pTk T n 115 (cD T n s)).2
abbrev cF (T : Vc) (n : Nat) (s : PSt) : PSt := (pTk T n 58 (cE T n s)).2
def pCup (T : Vc) (n : Nat) (s : PSt) : PSt := if (pTk T n 58 (cE T n s)).1 = true then (pNm T n 0 99 (cF T n s)).2 else cF T n s
def cupV (T : Vc) (n : Nat) (s : PSt) : Vc := fun j => if j = 0 then (pSg T n s).1 else if j = 1 then (pSg T n (pSg T n s).2).1 else if j = 2 then (pDg T n (pSg T n (pSg T n s).2).2).1 else if j = 3 then (if (pTk T n 58 (cE T n s)).1 = true then nI (pNm T n 0 99 (cF T n s)).1 else 1) else (if (pTk T n 115 (cD T n s)).1 = true then 1 else 0)
def pPart (T : Vc) (n : Nat) (s : PSt) : PSt := (pSg T n (pSg T n (pNm T n 1 20 s).2).2).2
def partV (T : Vc) (n : Nat) (s : PSt) : Vc := fun j => if j = 0 then nI (pNm T n 1 20 s).1 else if j = 1 then (pSg T n (pNm T n 1 20 s).2).1 else (pSg T n (pSg T n (pNm T n 1 20 s).2).2).1
theorem pTk_st {T : Vc} {n : Nat} {b : Int32} {s : PSt} : (pTk T n b s).2.2 = s.2 := by
  unfold pTk
  split
  · rename_i h
    split
    · exact h.symm
    · exact h.symm
  · rfl
theorem pTk_ok {T : Vc} {n : Nat} {b : Int32} {s : PSt} (h : (pTk T n b s).1 = true) : s.2 = true := by
  unfold pTk at h
  split at h
  · assumption
  · cases h
theorem pDg_ok {T : Vc} {n : Nat} {s : PSt} (h : (pDg T n s).2.2 = true) : s.2 = true := by
  unfold pDg at h
  split at h
  · assumption
  · exact h
theorem pSg_ok {T : Vc} {n : Nat} {s : PSt} (h : (pSg T n s).2.2 = true) : s.2 = true := by
  unfold pSg at h
  split at h
  · exact pTk_st.symm.trans (pDg_ok h)
  · split at h
    · exact pTk_st.symm.trans (pTk_st.symm.trans (pDg_ok h))
    · cases h
theorem pNm_ok {T : Vc} {n lo hi : Nat} {s : PSt} (h : (pNm T n lo hi s).2.2 = true) : s.2 = true := by
  unfold pNm at h
  split at h
  · assumption
  · exact h
theorem PS.cg {m m2 : Mu} {n : Nat} {s : PSt} (h : PS m n s) (e : m2 70 = m 70) : PS m2 n s := by
  unfold PS at h ⊢
  rw [e]
  exact h
def CLS (mu m2 : Mu) (n k c z : Nat) (E : PSt) (V : Vc) : Prop := PS m2 n E ∧ (m2 k 1 = nI c ∧ m2 k 2 = nI (z + 1)) ∧ (∀ q, q ≠ 70 → q ≠ k → q ≠ k + 2 + z → m2 q = mu q) ∧ (E.2 = true → ∀ j, j < c → m2 (k + 2 + z) j = V j)
theorem CLS.mk {mu m m2 : Mu} {n k c z : Nat} {E : PSt} {V W : Vc} {r : Int32} (hk : 70 < k) (g : fr70 mu m) (hp : PS m n E) (hV : E.2 = true → ∀ j, j < c → W j = V j) (hA : r = nI z ∧ AR m m2 k c z W c) : CLS mu m2 n k c z E V := by
  obtain ⟨-, a1, a2, a3, a4⟩ := hA
  exact ⟨hp.cg (a3 70 (by omega) (by omega)), ⟨a2, a1⟩, fun q q1 q2 q3 => (a3 q q2 q3).trans (g q q1), fun h j hj => (a4 j hj).trans (hV h j hj)⟩
theorem cupV_of {T : Vc} {n : Nat} {s : PSt} {x y w wo sp : Int32} (hx : x = (pSg T n s).1) (hy : y = (pSg T n (pSg T n s).2).1) (hw : w = (pDg T n (pSg T n (pSg T n s).2).2).1) (hs : sp = if (pTk T n 115 (cD T n s)).1 = true then 1 else 0) (ho : wo = if (pTk T n 58 (cE T n s)).1 = true then nI (pNm T n 0 99 (cF T n s)).1 else 1) : ∀ j, j < 5 → (fun j => if j = 0 then x else if j = 1 then y else if j = 2 then w else if j = 3 then wo else sp : Vc) j = cupV T n s j := by
  intro j _
  subst hx hy hw hs ho
  rfl
theorem partV_of {T : Vc} {n : Nat} {s : PSt} {x y w : Int32} (hx : x = nI (pNm T n 1 20 s).1) (hy : y = (pSg T n (pNm T n 1 20 s).2).1) (hw : w = (pSg T n (pSg T n (pNm T n 1 20 s).2).2).1) : ∀ j, j < 3 → (fun j => if j = 0 then x else if j = 1 then y else w : Vc) j = partV T n s j := by
  intro j _
  subst hx hy hw
  rfl
set_option maxHeartbeats 4000000 in
set_option maxRecDepth 100000 in
theorem c_X3_readCup (mu : Mu) (n : Nat) (s : PSt) (hP : PS mu n s) (z : Nat) (hc : mu 72 1 = nI 5) (ez : mu 72 2 = nI z) (hz : z < 4) : ConV yX3_readCup cX3_readCup 6 3 [vC 70] mu (fun mu2 => CLS mu mu2 n 72 5 z (pCup (mu 71) n s) (cupV (mu 71) n s)) := by
  refine conV_of (own := RX3) (by decide) rfl (Nat.le_of_ble_eq_true rfl) (fun X g hq => ?_)
  show WA X g RX3 6 cX3_readCup 0 [(0, vC 70)] [] mu
  refine o_aload_n dX3_readCup_0 rfl rfl (by rfl) ?_
  refine o_callV cs_X3_signedDigit cv_X3_66 (c_X3_signedDigit mu n s hP) hq.2.2.2 (Nat.le_of_ble_eq_true rfl) dX3_readCup_1 rfl (by decide) (by rfl) (by rfl) (by rfl) rfl rfl (Nat.le_of_ble_eq_true rfl) (fun ra wA hA => ?_)
  obtain ⟨eA, fA, pA⟩ := hA
  have gA := fA
  refine o_istore_n (L' := [(0, vC 70), (1, vI ra)]) dX3_readCup_4 rfl rfl (by decide) (by rfl) (by rfl) ?_
  refine o_aload_n dX3_readCup_5 rfl rfl (by rfl) ?_
  refine o_callV cs_X3_signedDigit cv_X3_66 (c_X3_signedDigit wA n _ pA) hq.2.2.2 (Nat.le_of_ble_eq_true rfl) dX3_readCup_6 rfl (by decide) (by rfl) (by rfl) (by rfl) rfl rfl (Nat.le_of_ble_eq_true rfl) (fun rb wB hB => ?_)
  obtain ⟨eB, fB, pB⟩ := hB
  rw [gA 71 (by decide)] at eB pB
  have gB := gA.tr fB
  refine o_istore_n (L' := [(0, vC 70), (1, vI ra), (2, vI rb)]) dX3_readCup_9 rfl rfl (by decide) (by rfl) (by rfl) ?_
  refine o_aload_n dX3_readCup_10 rfl rfl (by rfl) ?_
  refine o_callV cs_X3_digit cv_X3_69 (c_X3_digit wB n _ pB) hq.2.2.2 (Nat.le_of_ble_eq_true rfl) dX3_readCup_11 rfl (by decide) (by rfl) (by rfl) (by rfl) rfl rfl (Nat.le_of_ble_eq_true rfl) (fun rc wC hC => ?_)
  obtain ⟨eC, fC, pC⟩ := hC
  rw [gB 71 (by decide)] at eC pC
  have gC := gB.tr fC
  refine o_istore_n (L' := [(0, vC 70), (1, vI ra), (2, vI rb), (3, vI rc)]) dX3_readCup_14 rfl rfl (by decide) (by rfl) (by rfl) ?_
  refine o_aload_n dX3_readCup_15 rfl rfl (by rfl) ?_
  refine o_bipush (v := 115) dX3_readCup_16 rfl (by decide) ?_
  refine o_callV cs_X3_takes cv_X3_38 (c_X3_takes wC n _ pC 115 (by decide)) hq.2.2.2 (Nat.le_of_ble_eq_true rfl) dX3_readCup_18 rfl (by decide) (by rfl) (by rfl) (by rfl) rfl rfl (Nat.le_of_ble_eq_true rfl) (fun rD wD hD => ?_)
  obtain ⟨eD, fD, pD⟩ := hD
  rw [gC 71 (by decide)] at eD pD
  have gD := gC.tr fD
  refine o_if_eq (tgt := 28) dX3_readCup_21 (by decide) rfl (fun (c21 : rD = 0) => ?_) (fun (c21 : ¬ rD = 0) => ?_)
  · skip
    have b21 := (if10 eD).1 c21
    refine o_iconst (v := 0) dX3_readCup_28 rfl (by decide) ?_
    refine o_istore (L' := [(0, vC 70), (1, vI ra), (2, vI rb), (3, vI rc), (4, vI 0)]) dX3_readCup_29 rfl (by decide) (by rfl) (by rfl) ?_
    refine o_aload_n dX3_readCup_31 rfl rfl (by rfl) ?_
    refine o_bipush (v := 58) dX3_readCup_32 rfl (by decide) ?_
    refine o_callV cs_X3_takes cv_X3_38 (c_X3_takes wD n _ pD 58 (by decide)) hq.2.2.2 (Nat.le_of_ble_eq_true rfl) dX3_readCup_34 rfl (by decide) (by rfl) (by rfl) (by rfl) rfl rfl (Nat.le_of_ble_eq_true rfl) (fun rE wE hE => ?_)
    obtain ⟨eE, fE, pE⟩ := hE
    rw [gD 71 (by decide)] at eE pE
    have gE := gD.tr fE
    refine o_if_eq (tgt := 50) dX3_readCup_37 (by decide) rfl (fun (c37 : rE = 0) => ?_) (fun (c37 : ¬ rE = 0) => ?_)
    · skip
      have b37 := (if10 eE).1 c37
      refine o_iconst (v := 1) dX3_readCup_50 rfl (by decide) ?_
      refine o_istore (L' := [(0, vC 70), (1, vI ra), (2, vI rb), (3, vI rc), (4, vI 0), (5, vI 1)]) dX3_readCup_51 rfl (by decide) (by rfl) (by rfl) ?_
      refine o_aload_n dX3_readCup_53 rfl rfl (by rfl) ?_
      refine o_getC (q := 72) cl_X3_20 dX3_readCup_54 rfl (by decide) (by rfl) (by rfl) ?_
      refine o_iload_n dX3_readCup_57 rfl rfl (by rfl) ?_
      refine o_iload_n dX3_readCup_58 rfl rfl (by rfl) ?_
      refine o_iload_n dX3_readCup_59 rfl rfl (by rfl) ?_
      refine o_iload dX3_readCup_60 rfl (by rfl) ?_
      refine o_iload dX3_readCup_62 rfl (by rfl) ?_
      refine o_callS cs_X8_addCup ct_X3_76 (c_X8_addCup 72 tab72 _ z (by rw [gE 72 (by decide)]; exact hc) (by rw [gE 72 (by decide)]; exact ez) hz ra rb rc 1 0) hq.2.2.2 (Nat.le_of_ble_eq_true rfl) dX3_readCup_64 rfl rfl rfl (Nat.le_of_ble_eq_true rfl) (fun rZ wZ hZ => ?_)
      refine o_pop dX3_readCup_67 rfl rfl ?_
      exact o_vret hq dX3_readCup_68 (CLS.mk (by decide) gE (show PS _ n (pCup (mu 71) n s) from (show pCup (mu 71) n s = cF (mu 71) n s from if_neg b37) ▸ pE) (fun _ => cupV_of eA eB eC (if_neg b21).symm (if_neg b37).symm) hZ)
    · skip
      have b37 := (if10 eE).2 c37
      refine o_aload_n dX3_readCup_40 rfl rfl (by rfl) ?_
      refine o_iconst (v := 0) dX3_readCup_41 rfl (by decide) ?_
      refine o_bipush (v := 99) dX3_readCup_42 rfl (by decide) ?_
      refine o_callV cs_X3_number cv_X3_72 (c_X3_number wE n 0 99 _ pE (by decide) (by decide)) hq.2.2.2 (Nat.le_of_ble_eq_true rfl) dX3_readCup_44 rfl (by decide) (by rfl) (by rfl) (by rfl) rfl rfl (Nat.le_of_ble_eq_true rfl) (fun rf wF hF => ?_)
      obtain ⟨eF, fF, pF⟩ := hF
      rw [gE 71 (by decide)] at eF pF
      have gF := gE.tr fF
      refine o_goto (tgt := 51) dX3_readCup_47 (by decide) ?_
      refine o_istore (L' := [(0, vC 70), (1, vI ra), (2, vI rb), (3, vI rc), (4, vI 0), (5, vI rf)]) dX3_readCup_51 rfl (by decide) (by rfl) (by rfl) ?_
      refine o_aload_n dX3_readCup_53 rfl rfl (by rfl) ?_
      refine o_getC (q := 72) cl_X3_20 dX3_readCup_54 rfl (by decide) (by rfl) (by rfl) ?_
      refine o_iload_n dX3_readCup_57 rfl rfl (by rfl) ?_
      refine o_iload_n dX3_readCup_58 rfl rfl (by rfl) ?_
      refine o_iload_n dX3_readCup_59 rfl rfl (by rfl) ?_
      refine o_iload dX3_readCup_60 rfl (by rfl) ?_
      refine o_iload dX3_readCup_62 rfl (by rfl) ?_
      refine o_callS cs_X8_addCup ct_X3_76 (c_X8_addCup 72 tab72 _ z (by rw [gF 72 (by decide)]; exact hc) (by rw [gF 72 (by decide)]; exact ez) hz ra rb rc rf 0) hq.2.2.2 (Nat.le_of_ble_eq_true rfl) dX3_readCup_64 rfl rfl rfl (Nat.le_of_ble_eq_true rfl) (fun rZ wZ hZ => ?_)
      refine o_pop dX3_readCup_67 rfl rfl ?_
      exact o_vret hq dX3_readCup_68 (CLS.mk (by decide) gF (show PS _ n (pCup (mu 71) n s) from (show pCup (mu 71) n s = (pNm (mu 71) n 0 99 (cF (mu 71) n s)).2 from if_pos b37) ▸ pF) (fun he => cupV_of eA eB eC (if_neg b21).symm ((eF (by rw [show pCup (mu 71) n s = (pNm (mu 71) n 0 99 (cF (mu 71) n s)).2 from if_pos b37] at he; exact he)).trans (if_pos b37).symm)) hZ)
  · skip
    have b21 := (if10 eD).2 c21
    refine o_iconst (v := 1) dX3_readCup_24 rfl (by decide) ?_
    refine o_goto (tgt := 29) dX3_readCup_25 (by decide) ?_
    refine o_istore (L' := [(0, vC 70), (1, vI ra), (2, vI rb), (3, vI rc), (4, vI 1)]) dX3_readCup_29 rfl (by decide) (by rfl) (by rfl) ?_
    refine o_aload_n dX3_readCup_31 rfl rfl (by rfl) ?_
    refine o_bipush (v := 58) dX3_readCup_32 rfl (by decide) ?_
    refine o_callV cs_X3_takes cv_X3_38 (c_X3_takes wD n _ pD 58 (by decide)) hq.2.2.2 (Nat.le_of_ble_eq_true rfl) dX3_readCup_34 rfl (by decide) (by rfl) (by rfl) (by rfl) rfl rfl (Nat.le_of_ble_eq_true rfl) (fun rE wE hE => ?_)
    obtain ⟨eE, fE, pE⟩ := hE
    rw [gD 71 (by decide)] at eE pE
    have gE := gD.tr fE
    refine o_if_eq (tgt := 50) dX3_readCup_37 (by decide) rfl (fun (c37 : rE = 0) => ?_) (fun (c37 : ¬ rE = 0) => ?_)
    · skip
      have b37 := (if10 eE).1 c37
      refine o_iconst (v := 1) dX3_readCup_50 rfl (by decide) ?_
      refine o_istore (L' := [(0, vC 70), (1, vI ra), (2, vI rb), (3, vI rc), (4, vI 1), (5, vI 1)]) dX3_readCup_51 rfl (by decide) (by rfl) (by rfl) ?_
      refine o_aload_n dX3_readCup_53 rfl rfl (by rfl) ?_
      refine o_getC (q := 72) cl_X3_20 dX3_readCup_54 rfl (by decide) (by rfl) (by rfl) ?_
      refine o_iload_n dX3_readCup_57 rfl rfl (by rfl) ?_
      refine o_iload_n dX3_readCup_58 rfl rfl (by rfl) ?_
      refine o_iload_n dX3_readCup_59 rfl rfl (by rfl) ?_
      refine o_iload dX3_readCup_60 rfl (by rfl) ?_
      refine o_iload dX3_readCup_62 rfl (by rfl) ?_
      refine o_callS cs_X8_addCup ct_X3_76 (c_X8_addCup 72 tab72 _ z (by rw [gE 72 (by decide)]; exact hc) (by rw [gE 72 (by decide)]; exact ez) hz ra rb rc 1 1) hq.2.2.2 (Nat.le_of_ble_eq_true rfl) dX3_readCup_64 rfl rfl rfl (Nat.le_of_ble_eq_true rfl) (fun rZ wZ hZ => ?_)
      refine o_pop dX3_readCup_67 rfl rfl ?_
      exact o_vret hq dX3_readCup_68 (CLS.mk (by decide) gE (show PS _ n (pCup (mu 71) n s) from (show pCup (mu 71) n s = cF (mu 71) n s from if_neg b37) ▸ pE) (fun _ => cupV_of eA eB eC (if_pos b21).symm (if_neg b37).symm) hZ)
    · skip
      have b37 := (if10 eE).2 c37
      refine o_aload_n dX3_readCup_40 rfl rfl (by rfl) ?_
      refine o_iconst (v := 0) dX3_readCup_41 rfl (by decide) ?_
      refine o_bipush (v := 99) dX3_readCup_42 rfl (by decide) ?_
      refine o_callV cs_X3_number cv_X3_72 (c_X3_number wE n 0 99 _ pE (by decide) (by decide)) hq.2.2.2 (Nat.le_of_ble_eq_true rfl) dX3_readCup_44 rfl (by decide) (by rfl) (by rfl) (by rfl) rfl rfl (Nat.le_of_ble_eq_true rfl) (fun rf wF hF => ?_)
      obtain ⟨eF, fF, pF⟩ := hF
      rw [gE 71 (by decide)] at eF pF
      have gF := gE.tr fF
      refine o_goto (tgt := 51) dX3_readCup_47 (by decide) ?_
      refine o_istore (L' := [(0, vC 70), (1, vI ra), (2, vI rb), (3, vI rc), (4, vI 1), (5, vI rf)]) dX3_readCup_51 rfl (by decide) (by rfl) (by rfl) ?_
      refine o_aload_n dX3_readCup_53 rfl rfl (by rfl) ?_
      refine o_getC (q := 72) cl_X3_20 dX3_readCup_54 rfl (by decide) (by rfl) (by rfl) ?_
      refine o_iload_n dX3_readCup_57 rfl rfl (by rfl) ?_
      refine o_iload_n dX3_readCup_58 rfl rfl (by rfl) ?_
      refine o_iload_n dX3_readCup_59 rfl rfl (by rfl) ?_
      refine o_iload dX3_readCup_60 rfl (by rfl) ?_
      refine o_iload dX3_readCup_62 rfl (by rfl) ?_
      refine o_callS cs_X8_addCup ct_X3_76 (c_X8_addCup 72 tab72 _ z (by rw [gF 72 (by decide)]; exact hc) (by rw [gF 72 (by decide)]; exact ez) hz ra rb rc rf 1) hq.2.2.2 (Nat.le_of_ble_eq_true rfl) dX3_readCup_64 rfl rfl rfl (Nat.le_of_ble_eq_true rfl) (fun rZ wZ hZ => ?_)
      refine o_pop dX3_readCup_67 rfl rfl ?_
      exact o_vret hq dX3_readCup_68 (CLS.mk (by decide) gF (show PS _ n (pCup (mu 71) n s) from (show pCup (mu 71) n s = (pNm (mu 71) n 0 99 (cF (mu 71) n s)).2 from if_pos b37) ▸ pF) (fun he => cupV_of eA eB eC (if_pos b21).symm ((eF (by rw [show pCup (mu 71) n s = (pNm (mu 71) n 0 99 (cF (mu 71) n s)).2 from if_pos b37] at he; exact he)).trans (if_pos b37).symm)) hZ)
set_option maxHeartbeats 4000000 in
set_option maxRecDepth 100000 in
theorem c_X3_readPart (mu : Mu) (n : Nat) (s : PSt) (hP : PS mu n s) (z : Nat) (hc : mu 78 1 = nI 3) (ez : mu 78 2 = nI z) (hz : z < 6) : ConV yX3_readPart cX3_readPart 4 3 [vC 70] mu (fun mu2 => CLS mu mu2 n 78 3 z (pPart (mu 71) n s) (partV (mu 71) n s)) := by
  refine conV_of (own := RX3) (by decide) rfl (Nat.le_of_ble_eq_true rfl) (fun X g hq => ?_)
  show WA X g RX3 4 cX3_readPart 0 [(0, vC 70)] [] mu
  refine o_aload_n dX3_readPart_0 rfl rfl (by rfl) ?_
  refine o_iconst (v := 1) dX3_readPart_1 rfl (by decide) ?_
  refine o_bipush (v := 20) dX3_readPart_2 rfl (by decide) ?_
  refine o_callV cs_X3_number cv_X3_72 (c_X3_number mu n 1 20 _ hP (by decide) (by decide)) hq.2.2.2 (Nat.le_of_ble_eq_true rfl) dX3_readPart_4 rfl (by decide) (by rfl) (by rfl) (by rfl) rfl rfl (Nat.le_of_ble_eq_true rfl) (fun ra wA hA => ?_)
  obtain ⟨eA, fA, pA⟩ := hA
  have gA := fA
  refine o_istore_n (L' := [(0, vC 70), (1, vI ra)]) dX3_readPart_7 rfl rfl (by decide) (by rfl) (by rfl) ?_
  refine o_aload_n dX3_readPart_8 rfl rfl (by rfl) ?_
  refine o_callV cs_X3_signedDigit cv_X3_66 (c_X3_signedDigit wA n _ pA) hq.2.2.2 (Nat.le_of_ble_eq_true rfl) dX3_readPart_9 rfl (by decide) (by rfl) (by rfl) (by rfl) rfl rfl (Nat.le_of_ble_eq_true rfl) (fun rb wB hB => ?_)
  obtain ⟨eB, fB, pB⟩ := hB
  rw [gA 71 (by decide)] at eB pB
  have gB := gA.tr fB
  refine o_istore_n (L' := [(0, vC 70), (1, vI ra), (2, vI rb)]) dX3_readPart_12 rfl rfl (by decide) (by rfl) (by rfl) ?_
  refine o_aload_n dX3_readPart_13 rfl rfl (by rfl) ?_
  refine o_callV cs_X3_signedDigit cv_X3_66 (c_X3_signedDigit wB n _ pB) hq.2.2.2 (Nat.le_of_ble_eq_true rfl) dX3_readPart_14 rfl (by decide) (by rfl) (by rfl) (by rfl) rfl rfl (Nat.le_of_ble_eq_true rfl) (fun rc wC hC => ?_)
  obtain ⟨eC, fC, pC⟩ := hC
  rw [gB 71 (by decide)] at eC pC
  have gC := gB.tr fC
  refine o_istore_n (L' := [(0, vC 70), (1, vI ra), (2, vI rb), (3, vI rc)]) dX3_readPart_17 rfl rfl (by decide) (by rfl) (by rfl) ?_
  refine o_aload_n dX3_readPart_18 rfl rfl (by rfl) ?_
  refine o_getC (q := 78) cl_X3_24 dX3_readPart_19 rfl (by decide) (by rfl) (by rfl) ?_
  refine o_iload_n dX3_readPart_22 rfl rfl (by rfl) ?_
  refine o_iload_n dX3_readPart_23 rfl rfl (by rfl) ?_
  refine o_iload_n dX3_readPart_24 rfl rfl (by rfl) ?_
  refine o_callS cs_X8_addPart ct_X3_80 (c_X8_addPart 78 tab78 _ z (by rw [gC 78 (by decide)]; exact hc) (by rw [gC 78 (by decide)]; exact ez) hz ra rb rc) hq.2.2.2 (Nat.le_of_ble_eq_true rfl) dX3_readPart_25 rfl rfl rfl (Nat.le_of_ble_eq_true rfl) (fun rZ wZ hZ => ?_)
  refine o_pop dX3_readPart_28 rfl rfl ?_
  exact o_vret hq dX3_readPart_29 (CLS.mk (by decide) gC (show PS _ n (pPart (mu 71) n s) from pC) (fun he => partV_of (eA (pSg_ok (pSg_ok he))) eB eC) hZ)
/-- the states of the reader, clause by clause -/
def SP (cl : PSt → PSt) (T : Vc) (n : Nat) : Nat → PSt
  | 0 => (0, true)
  | i + 1 => (pTk T n 59 (cl (SP cl T n i))).2
def HS (cl : PSt → PSt) (T : Vc) (n : Nat) : Nat → PSt
  | 0 => (0, true)
  | i + 1 => cl (SP cl T n i)
def Mor (cl : PSt → PSt) (T : Vc) (n i : Nat) : Prop := (pTk T n 59 (cl (SP cl T n i))).1 = true
def RdN (cl : PSt → PSt) (T : Vc) (n M N : Nat) (E : PSt) : Prop := 1 ≤ N ∧ N ≤ M ∧ (∀ i, i + 1 < N → Mor cl T n i) ∧ ((N = M ∧ E = HS cl T n M) ∨ (N < M ∧ ¬ Mor cl T n (N - 1) ∧ E = SP cl T n N))
theorem RdN.one {cl : PSt → PSt} {T : Vc} {n M N N' : Nat} {E E' : PSt} (h : RdN cl T n M N E) (h' : RdN cl T n M N' E') : N = N' ∧ E = E' := by
  obtain ⟨a1, a2, a3, a4⟩ := h
  obtain ⟨b1, b2, b3, b4⟩ := h'
  rcases a4 with ⟨a5, a6⟩ | ⟨a5, a6, a7⟩
  · rcases b4 with ⟨b5, b6⟩ | ⟨b5, b6, b7⟩
    · exact ⟨by omega, by rw [a6, b6]⟩
    · exact absurd (a3 (N' - 1) (by omega)) b6
  · rcases b4 with ⟨b5, b6⟩ | ⟨b5, b6, b7⟩
    · exact absurd (b3 (N - 1) (by omega)) a6
    · have e : N = N' := by
        by_cases q : N < N'
        · exact absurd (b3 (N - 1) (by omega)) a6
        · by_cases q2 : N' < N
          · exact absurd (a3 (N' - 1) (by omega)) b6
          · omega
      subst e
      exact ⟨rfl, by rw [a7, b7]⟩
theorem RdN.ok {cl : PSt → PSt} {T : Vc} {n M N : Nat} {E : PSt} (h : RdN cl T n M N E) (hE : E.2 = true) : ∀ i, i < N → (cl (SP cl T n i)).2 = true := by
  intro i hi
  obtain ⟨a1, a2, a3, a4⟩ := h
  by_cases q : i + 1 < N
  · exact pTk_ok (a3 i q)
  · have ei : i = N - 1 := by omega
    subst ei
    rcases a4 with ⟨a5, a6⟩ | ⟨a5, a6, a7⟩
    · subst a5
      rw [a6] at hE
      match N, a1, hE with
      | k + 1, _, hE => exact hE
    · rw [a7] at hE
      match N, a1, hE with
      | k + 1, _, hE => exact pTk_st.symm.trans hE
def fnR (T : Vc) (n : Nat) (x : Int32) (E : PSt) : Int32 := if E.2 = true then (if nx T n E.1 = -1 then x else -20 - nI (sk T n E.1)) else -20 - nI E.1
theorem fin_a {mu m m2 : Mu} {n : Nat} {s : PSt} {x : Int32} (hP : PS mu n s) (hN : fr70 mu m ∧ (∀ j, j ≠ 2 → m 70 j = mu 70 j) ∧ ∀ q, mu 70 2 = nI q → q ≤ n → m 70 2 = nI (sk (mu 71) n q)) (h2 : (nx (mu 71) n s.1 = -1 ∧ s.2 = true ∧ m2 = m) ∨ (¬ (s.2 = true ∧ nx (mu 71) n s.1 = -1) ∧ m2 = if m 70 3 = -1 then upF m 70 3 (m 70 2) else m) ∨ (s.2 = false ∧ m2 = m)) : (m2 70 3 = -1 → fnR (mu 71) n x s = x) ∧ (¬ m2 70 3 = -1 → fnR (mu 71) n x s = -20 - m2 70 3) ∧ fr70 mu m2 := by
  obtain ⟨h1, hn, hs, h4⟩ := hP
  obtain ⟨n1, n2, n3⟩ := hN
  unfold fnR
  rcases h4 with ⟨a, b, c⟩ | ⟨a, b, q, hq, c⟩
  · rcases h2 with ⟨d1, d2, d3⟩ | ⟨d1, d2⟩ | ⟨d1, d2⟩
    · subst d3
      rw [if_pos a, if_pos d1]
      exact ⟨fun _ => rfl, fun h => absurd ((n2 3 (by decide)).trans b) h, n1⟩
    · rw [if_pos ((n2 3 (by decide)).trans b)] at d2
      subst d2
      rw [if_pos a, if_neg (fun h => d1 ⟨a, h⟩)]
      have e9 : upF m 70 3 (m 70 2) 70 3 = nI (sk (mu 71) n s.1) := by rw [upF_s]; exact n3 _ c hs
      refine ⟨fun h => ?_, fun _ => by rw [e9], fun q hq => by rw [upF_k hq]; exact n1 q hq⟩
      rw [e9] at h
      exact absurd h (nI_nem1 (by have := (sk_le (T := mu 71) hs).1; omega))
    · rw [a] at d1; cases d1
  · have e9 : m 70 3 = nI s.1 := (n2 3 (by decide)).trans b
    have e8 : ¬ m 70 3 = -1 := by rw [e9]; exact nI_nem1 (by omega)
    have em : m2 = m := by
      rcases h2 with ⟨d1, d2, d3⟩ | ⟨d1, d2⟩ | ⟨d1, d2⟩
      · exact d3
      · rw [if_neg e8] at d2; exact d2
      · exact d2
    subst em
    rw [if_neg (by rw [a]; decide)]
    exact ⟨fun h => absurd h e8, fun _ => by rw [e9], n1⟩
theorem nx_m1 {T : Vc} {n p : Nat} : nx T n p = -1 ∨ ¬ nx T n p = -1 := Decidable.em _
set_option maxHeartbeats 4000000 in
set_option maxRecDepth 100000 in
theorem c_X3_begin (mu : Mu) : ConV yX3_begin cX3_begin 1 0 [vC 70] mu (fun mu2 => mu2 = upF (upF mu 70 2 0) 70 3 (-1)) := by
  refine conV_of (own := RX3) (by decide) rfl (Nat.le_of_ble_eq_true rfl) (fun X g hq => ?_)
  show WA X g RX3 1 cX3_begin 0 [(0, vC 70)] [] mu
  refine o_aload_n dX3_begin_0 rfl rfl (by rfl) ?_
  refine o_iconst (v := 0) dX3_begin_1 rfl (by decide) ?_
  refine o_put cl_X3_53 cp_X3_2 dX3_begin_2 rfl (by decide) (by rfl) (by rfl) fitI ?_
  refine o_aload_n dX3_begin_5 rfl rfl (by rfl) ?_
  refine o_iconst (v := (-1)) dX3_begin_6 rfl (by decide) ?_
  refine o_put cl_X3_56 cp_X3_3 dX3_begin_7 rfl (by decide) (by rfl) (by rfl) fitI ?_
  exact o_vret hq dX3_begin_10 rfl
set_option maxHeartbeats 4000000 in
set_option maxRecDepth 100000 in
theorem c_X3_finish (mu : Mu) (n : Nat) (s : PSt) (hP : PS mu n s) (x : Int32) : Con yX3_finish cX3_finish 2 (some .int) 1 [vC 70, vI x] mu (fun r mu2 => r = fnR (mu 71) n x s ∧ fr70 mu mu2 ∧ mu2 70 1 = 0) := by
  refine con_of (own := RX3) (by decide) rfl (Nat.le_of_ble_eq_true rfl) (fun X g hq => ?_)
  show WA X g RX3 2 cX3_finish 0 [(0, vC 70), (1, vI x)] [] mu
  obtain ⟨en, hn, hs, -⟩ := id hP
  obtain ⟨pq, hpq, epq, hpqs⟩ := hP.pl
  refine o_aload_n dX3_finish_0 rfl rfl (by rfl) ?_
  refine o_callV cs_X3_next cv_X3_59 (c_X3_next mu n pq en hn hpq epq) hq.2.2.2 (Nat.le_of_ble_eq_true rfl) dX3_finish_1 rfl (by decide) (by rfl) (by rfl) (by rfl) rfl rfl (Nat.le_of_ble_eq_true rfl) (fun rN mN hN => ?_)
  have hN2 : ∀ q, mu 70 2 = nI q → q ≤ n → mN 70 2 = nI (sk (mu 71) n q) := fun q e hq9 => by rw [(nI_eq (by omega) (by omega)).mp (e.symm.trans epq)]; exact hN.2.2.2
  refine o_iconst (v := (-1)) dX3_finish_4 rfl (by decide) ?_
  refine o_icmp_eq (tgt := 16) dX3_finish_5 (by decide) rfl (fun (c5 : rN = ((-1))) => ?_) (fun (c5 : ¬ rN = ((-1))) => ?_)
  · skip
    have hFA : (mN 70 3 = -1 → fnR (mu 71) n x s = x) ∧ (¬ mN 70 3 = -1 → fnR (mu 71) n x s = -20 - mN 70 3) ∧ fr70 mu mN := fin_a (x := x) hP ⟨hN.2.1, hN.2.2.1, hN2⟩ (if e : s.2 = true then Or.inl ⟨by rw [← hpqs e]; exact hN.1.symm.trans c5, e, rfl⟩ else Or.inr (Or.inr ⟨by cases h : s.2; rfl; exact absurd h e, rfl⟩))
    refine o_aload_n dX3_finish_16 rfl rfl (by rfl) ?_
    refine o_iconst (v := 0) dX3_finish_17 rfl (by decide) ?_
    refine o_put cl_X3_27 cp_X3_1 dX3_finish_18 rfl (by decide) (by rfl) (by rfl) fitI ?_
    refine o_aload_n dX3_finish_21 rfl rfl (by rfl) ?_
    refine o_getI cl_X3_56 dX3_finish_22 rfl (by decide) (by rfl) (by rfl) ?_
    refine o_iconst (v := (-1)) dX3_finish_25 rfl (by decide) ?_
    refine o_icmp_ne (tgt := 33) dX3_finish_26 (by decide) rfl (fun (c26 : ¬ (mN 70 3) = ((-1))) => ?_) (fun (c26 : (mN 70 3) = ((-1))) => ?_)
    · skip
      refine o_bipush (v := (-20)) dX3_finish_33 rfl (by decide) ?_
      refine o_aload_n dX3_finish_35 rfl rfl (by rfl) ?_
      refine o_getI cl_X3_56 dX3_finish_36 rfl (by decide) (by rfl) (by rfl) ?_
      refine o_isub dX3_finish_39 rfl ?_
      exact o_iret hq dX3_finish_40 ⟨(hFA.2.1 c26).symm, fun q hq => by rw [upF_k hq]; exact hFA.2.2 q hq, upF_s⟩
    · skip
      refine o_iload_n dX3_finish_29 rfl rfl (by rfl) ?_
      refine o_goto (tgt := 40) dX3_finish_30 (by decide) ?_
      exact o_iret hq dX3_finish_40 ⟨(hFA.1 c26).symm, fun q hq => by rw [upF_k hq]; exact hFA.2.2 q hq, upF_s⟩
  · skip
    refine o_aload_n dX3_finish_8 rfl rfl (by rfl) ?_
    refine o_aload_n dX3_finish_9 rfl rfl (by rfl) ?_
    refine o_getI cl_X3_53 dX3_finish_10 rfl (by decide) (by rfl) (by rfl) ?_
    refine o_callVV cs_X3_faultAt cv_X3_62 (c_X3_faultAt _ (mN 70 2)) hq.2.2.2 (Nat.le_of_ble_eq_true rfl) dX3_finish_13 rfl (by decide) (by rfl) (by rfl) (by rfl) rfl rfl (Nat.le_of_ble_eq_true rfl) (fun mA hA => ?_)
    have hFA := fin_a (x := x) hP ⟨hN.2.1, hN.2.2.1, hN2⟩ (Or.inr (Or.inl ⟨fun h => c5 (by rw [hN.1, hpqs h.1]; exact h.2), hA⟩))
    refine o_aload_n dX3_finish_16 rfl rfl (by rfl) ?_
    refine o_iconst (v := 0) dX3_finish_17 rfl (by decide) ?_
    refine o_put cl_X3_27 cp_X3_1 dX3_finish_18 rfl (by decide) (by rfl) (by rfl) fitI ?_
    refine o_aload_n dX3_finish_21 rfl rfl (by rfl) ?_
    refine o_getI cl_X3_56 dX3_finish_22 rfl (by decide) (by rfl) (by rfl) ?_
    refine o_iconst (v := (-1)) dX3_finish_25 rfl (by decide) ?_
    refine o_icmp_ne (tgt := 33) dX3_finish_26 (by decide) rfl (fun (c26 : ¬ (mA 70 3) = ((-1))) => ?_) (fun (c26 : (mA 70 3) = ((-1))) => ?_)
    · skip
      refine o_bipush (v := (-20)) dX3_finish_33 rfl (by decide) ?_
      refine o_aload_n dX3_finish_35 rfl rfl (by rfl) ?_
      refine o_getI cl_X3_56 dX3_finish_36 rfl (by decide) (by rfl) (by rfl) ?_
      refine o_isub dX3_finish_39 rfl ?_
      exact o_iret hq dX3_finish_40 ⟨(hFA.2.1 c26).symm, fun q hq => by rw [upF_k hq]; exact hFA.2.2 q hq, upF_s⟩
    · skip
      refine o_iload_n dX3_finish_29 rfl rfl (by rfl) ?_
      refine o_goto (tgt := 40) dX3_finish_30 (by decide) ?_
      exact o_iret hq dX3_finish_40 ⟨(hFA.1 c26).symm, fun q hq => by rw [upF_k hq]; exact hFA.2.2 q hq, upF_s⟩
