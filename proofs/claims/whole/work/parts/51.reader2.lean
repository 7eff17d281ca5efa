/-! ===== Reader: signed digits, numbers ===== -/
theorem PS.fail {m m2 : Mu} {n : Nat} {s : PSt} (h : PS m n s) (h2 : m2 = if m 70 3 = -1 then upF m 70 3 (m 70 2) else m) : PS m2 n (s.1, false) ∧ fr70 m m2 := by
  obtain ⟨h1, hn, hs, h4⟩ := h
  rcases h4 with ⟨a, b, c⟩ | ⟨a, b, q, hq, c⟩
  · rw [if_pos b] at h2
    subst h2
    exact ⟨⟨by rw [upF_i (by decide)]; exact h1, hn, hs, Or.inr ⟨rfl, by rw [upF_s]; exact c, s.1, hs, by rw [upF_i (by decide)]; exact c⟩⟩, fun q hq => upF_k hq⟩
  · rw [if_neg (by rw [b]; exact nI_nem1 (by omega))] at h2
    subst h2
    exact ⟨⟨h1, hn, hs, Or.inr ⟨rfl, b, q, hq, c⟩⟩, fun _ _ => rfl⟩
theorem pDg_no {T : Vc} {n : Nat} {s : PSt} (h : s.2 = false) : pDg T n s = (0, s) := by
  unfold pDg
  rw [if_neg (by rw [h]; decide)]
theorem fr70.tr {a b c : Mu} (h : fr70 a b) (h2 : fr70 b c) : fr70 a c := fun q hq => by rw [h2 q hq, h q hq]
set_option maxHeartbeats 4000000 in
set_option maxRecDepth 100000 in
theorem c_X3_signedDigit (mu : Mu) (n : Nat) (s : PSt) (hP : PS mu n s) : Con yX3_signedDigit cX3_signedDigit 1 (some .int) 2 [vC 70] mu (fun r mu2 => r = (pSg (mu 71) n s).1 ∧ fr70 mu mu2 ∧ PS mu2 n (pSg (mu 71) n s).2) := by
  refine con_of (own := RX3) (by decide) rfl (Nat.le_of_ble_eq_true rfl) (fun X g hq => ?_)
  show WA X g RX3 1 cX3_signedDigit 0 [(0, vC 70)] [] mu
  refine o_aload_n dX3_signedDigit_0 rfl rfl (by rfl) ?_
  refine o_bipush (v := 45) dX3_signedDigit_1 rfl (by decide) ?_
  refine o_callV cs_X3_takes cv_X3_38 (c_X3_takes mu n s hP 45 (by decide)) hq.2.2.2 (Nat.le_of_ble_eq_true rfl) dX3_signedDigit_3 rfl (by decide) (by rfl) (by rfl) (by rfl) rfl rfl (Nat.le_of_ble_eq_true rfl) (fun rT1 mT1 hT1 => ?_)
  obtain ⟨hT1, fT1, pT1⟩ := hT1
  refine o_if_eq (tgt := 15) dX3_signedDigit_6 (by decide) rfl (fun (c6 : rT1 = 0) => ?_) (fun (c6 : ¬ rT1 = 0) => ?_)
  · skip
    have b6 := (if10 hT1).1 c6
    refine o_aload_n dX3_signedDigit_15 rfl rfl (by rfl) ?_
    refine o_bipush (v := 43) dX3_signedDigit_16 rfl (by decide) ?_
    refine o_callV cs_X3_takes cv_X3_38 (c_X3_takes mT1 n (pTk (mu 71) n 45 s).2 pT1 43 (by decide)) hq.2.2.2 (Nat.le_of_ble_eq_true rfl) dX3_signedDigit_18 rfl (by decide) (by rfl) (by rfl) (by rfl) rfl rfl (Nat.le_of_ble_eq_true rfl) (fun rT2 mT2 hT2 => ?_)
    obtain ⟨hT2, fT2, pT2⟩ := hT2
    rw [show mT1 71 = mu 71 from fT1 71 (by decide)] at hT2 pT2
    refine o_if_ne (tgt := 32) dX3_signedDigit_21 (by decide) rfl (fun (c21 : ¬ rT2 = 0) => ?_) (fun (c21 : rT2 = 0) => ?_)
    · skip
      have b21 := (if10 hT2).2 c21
      refine o_aload_n dX3_signedDigit_32 rfl rfl (by rfl) ?_
      refine o_callV cs_X3_digit cv_X3_69 (c_X3_digit mT2 n _ pT2) hq.2.2.2 (Nat.le_of_ble_eq_true rfl) dX3_signedDigit_33 rfl (by decide) (by rfl) (by rfl) (by rfl) rfl rfl (Nat.le_of_ble_eq_true rfl) (fun rD mD hD => ?_)
      rw [fT2 71 (by decide), fT1 71 (by decide)] at hD
      exact o_iret hq dX3_signedDigit_36 ⟨by unfold pSg; rw [if_neg b6, if_pos b21, hD.1], (fT1.tr fT2).tr hD.2.1, by unfold pSg; rw [if_neg b6, if_pos b21]; exact hD.2.2⟩
    · skip
      have b21 := (if10 hT2).1 c21
      refine o_aload_n dX3_signedDigit_24 rfl rfl (by rfl) ?_
      refine o_aload_n dX3_signedDigit_25 rfl rfl (by rfl) ?_
      refine o_getI cl_X3_53 dX3_signedDigit_26 rfl (by decide) (by rfl) (by rfl) ?_
      refine o_callVV cs_X3_faultAt cv_X3_62 (c_X3_faultAt _ (mT2 70 2)) hq.2.2.2 (Nat.le_of_ble_eq_true rfl) dX3_signedDigit_29 rfl (by decide) (by rfl) (by rfl) (by rfl) rfl rfl (Nat.le_of_ble_eq_true rfl) (fun mA hA => ?_)
      have hA2 := pT2.fail hA
      refine o_aload_n dX3_signedDigit_32 rfl rfl (by rfl) ?_
      refine o_callV cs_X3_digit cv_X3_69 (c_X3_digit mA n _ hA2.1) hq.2.2.2 (Nat.le_of_ble_eq_true rfl) dX3_signedDigit_33 rfl (by decide) (by rfl) (by rfl) (by rfl) rfl rfl (Nat.le_of_ble_eq_true rfl) (fun rD mD hD => ?_)
      rw [pDg_no rfl] at hD
      exact o_iret hq dX3_signedDigit_36 ⟨by unfold pSg; rw [if_neg b6, if_neg b21, hD.1], ((fT1.tr fT2).tr hA2.2).tr hD.2.1, by unfold pSg; rw [if_neg b6, if_neg b21]; exact hD.2.2⟩
  · skip
    have b6 := (if10 hT1).2 c6
    refine o_aload_n dX3_signedDigit_9 rfl rfl (by rfl) ?_
    refine o_callV cs_X3_digit cv_X3_69 (c_X3_digit mT1 n _ pT1) hq.2.2.2 (Nat.le_of_ble_eq_true rfl) dX3_signedDigit_10 rfl (by decide) (by rfl) (by rfl) (by rfl) rfl rfl (Nat.le_of_ble_eq_true rfl) (fun rD mD hD => ?_)
    rw [fT1 71 (by decide)] at hD
    refine o_ineg dX3_signedDigit_13 rfl ?_
    exact o_iret hq dX3_signedDigit_14 ⟨by unfold pSg; rw [if_pos b6, hD.1], fT1.tr hD.2.1, by unfold pSg; rw [if_pos b6]; exact hD.2.2⟩
/-- within a number -/
def NL (mu m : Mu) (n lo hi : Nat) (s : PSt) (x : Int32) : Prop := fr70 mu m ∧ ((¬ m 70 3 = -1 ∧ PS m n (pNm (mu 71) n lo hi s).2 ∧ (pNm (mu 71) n lo hi s).2.2 = false) ∨ (s.2 = true ∧ inB (nx (mu 71) n s.1) 48 57 = true ∧ m 70 3 = -1 ∧ m 70 1 = nI n ∧ ∃ v i, i ≤ n ∧ m 70 2 = nI i ∧ x = nI (min v 1000) ∧ num (mu 71) n v i = num (mu 71) n 0 (sk (mu 71) n s.1)))
theorem dig_nI {x : Int32} (h : inB x 48 57 = true) : ∃ d, x = nI d ∧ 48 ≤ d ∧ d ≤ 57 := inB_nI (l := 48) (m := 57) (by decide) (by decide) h
theorem min_step {v d : Nat} (h1 : 48 ≤ d) (h2 : d ≤ 57) : (if (1000 : Int32) < nI (min v 1000) * 10 + nI d - 48 then 1000 else nI (min v 1000) * 10 + nI d - 48) = nI (min (10 * v + (d - 48)) 1000) := by
  have e : nI (min v 1000) * 10 + nI d - 48 = nI (min v 1000 * 10 + d - 48) := by
    rw [show (10 : Int32) = nI 10 from rfl, show (48 : Int32) = nI 48 from rfl, pk_mul, nI_add, pk_sub (by omega)]
  rw [e]
  by_cases q : 1000 < min v 1000 * 10 + d - 48
  · rw [if_pos (show (1000 : Int32) < nI (min v 1000 * 10 + d - 48) from nI_lt (a := 1000) q (by omega)), show min (10 * v + (d - 48)) 1000 = 1000 by omega]
    rfl
  · rw [if_neg (show ¬ (1000 : Int32) < nI (min v 1000 * 10 + d - 48) from nI_nlt (a := 1000) (by omega) (by omega))]
    congr 1
    omega
theorem pNm_no {T : Vc} {n lo hi : Nat} {s : PSt} (h : s.2 = false) : pNm T n lo hi s = (0, s) := by
  unfold pNm
  rw [if_neg (by rw [h]; decide)]
theorem pNm_nd {T : Vc} {n lo hi : Nat} {s : PSt} (h : s.2 = true) (h2 : ¬ inB (nx T n s.1) 48 57 = true) : pNm T n lo hi s = (0, (sk T n s.1, false)) := by
  unfold pNm
  rw [if_pos h, if_neg h2]
theorem nx_sk (T : Vc) (n p : Nat) : nx T n (sk T n p) = nx T n p := by
  unfold nx
  rw [sk_sk]
/-- behind the first digit, or the fault -/
theorem NL.start {mu mN m : Mu} {n lo hi : Nat} {s : PSt} {r : Int32} (hP : PS mu n s) (hN : fr70 mu mN) (hJ : ∀ j, j ≠ 2 → mN 70 j = mu 70 j) (h2 : ∀ q, mu 70 2 = nI q → q ≤ n → mN 70 2 = nI (sk (mu 71) n q)) (hS : PS mN n (if s.2 = true then (sk (mu 71) n s.1, true) else s)) (hD : r = (pDg (mu 71) n (if s.2 = true then (sk (mu 71) n s.1, true) else s)).1 ∧ fr70 mN m ∧ PS m n (pDg (mu 71) n (if s.2 = true then (sk (mu 71) n s.1, true) else s)).2) : NL mu m n lo hi s r := by
  obtain ⟨d1, d2, d3⟩ := hD
  refine ⟨hN.tr d2, ?_⟩
  by_cases e : s.2 = true
  · rw [if_pos e] at d1 d3
    by_cases e2 : inB (nx (mu 71) n s.1) 48 57 = true
    · right
      have ed : pDg (mu 71) n (sk (mu 71) n s.1, true) = (nx (mu 71) n s.1 - 48, (sk (mu 71) n s.1 + 1, true)) := by
        unfold pDg
        rw [if_pos rfl]
        show (if inB (nx (mu 71) n (sk (mu 71) n s.1)) 48 57 = true then _ else _) = _
        rw [nx_sk, if_pos e2, sk_sk]
      rw [ed] at d1 d3
      obtain ⟨f1, f2⟩ := in_m1 e2
      obtain ⟨d, g1, g2, g3⟩ := dig_nI e2
      obtain ⟨q1, hn, q2, q3⟩ := d3
      rcases q3 with ⟨-, q4, q5⟩ | ⟨q4, -⟩
      · refine ⟨e, e2, q4, q1, d - 48, sk (mu 71) n s.1 + 1, q2, q5, ?_, ?_⟩
        · rw [d1]
          show nx (mu 71) n s.1 - 48 = _
          rw [g1, show (48 : Int32) = nI 48 from rfl, pk_sub g2]
          congr 1
          omega
        · rw [num_go (p := sk (mu 71) n s.1) ⟨f1, by rw [← f2]; exact e2⟩, ← f2, g1, nI_clamp (by omega)]
          congr 1
          omega
      · cases q4
    · left
      have ed : pDg (mu 71) n (sk (mu 71) n s.1, true) = (0, (sk (mu 71) n s.1, false)) := by
        unfold pDg
        rw [if_pos rfl]
        show (if inB (nx (mu 71) n (sk (mu 71) n s.1)) 48 57 = true then _ else _) = _
        rw [nx_sk, if_neg e2, sk_sk]
      rw [ed] at d3
      rw [pNm_nd e e2]
      refine ⟨?_, d3, rfl⟩
      obtain ⟨q1, hn, q2, q3⟩ := d3
      rcases q3 with ⟨q4, -⟩ | ⟨-, q4, -⟩
      · cases q4
      · rw [q4]; exact nI_nem1 (by omega)
  · left
    have e3 : s.2 = false := by cases h : s.2; rfl; exact absurd h e
    rw [if_neg e, pDg_no e3] at d3
    rw [pNm_no e3]
    refine ⟨?_, d3, e3⟩
    obtain ⟨q1, hn, q2, q3⟩ := d3
    rcases q3 with ⟨q4, -⟩ | ⟨-, q4, -⟩
    · rw [e3] at q4; cases q4
    · rw [q4]; exact nI_nem1 (by omega)
theorem PS.nx {mu mN : Mu} {n : Nat} {s : PSt} (hP : PS mu n s) (hJ : ∀ j, j ≠ 2 → mN 70 j = mu 70 j) (h2 : ∀ q, mu 70 2 = nI q → q ≤ n → mN 70 2 = nI (sk (mu 71) n q)) : PS mN n (if s.2 = true then (sk (mu 71) n s.1, true) else s) := by
  obtain ⟨h1, hn, hs, h4⟩ := hP
  rcases h4 with ⟨a, b, c⟩ | ⟨a, b, q, hq, c⟩
  · rw [if_pos a]
    exact ⟨by rw [hJ 1 (by decide)]; exact h1, hn, (sk_le hs).1, Or.inl ⟨rfl, by rw [hJ 3 (by decide)]; exact b, h2 _ c hs⟩⟩
  · rw [if_neg (by rw [a]; decide)]
    exact ⟨by rw [hJ 1 (by decide)]; exact h1, hn, hs, Or.inr ⟨a, by rw [hJ 3 (by decide)]; exact b, _, (sk_le hq).1, h2 q c hq⟩⟩
theorem NL.zero {mu m : Mu} {n lo hi : Nat} {s : PSt} {x : Int32} (h : NL mu m n lo hi s x) (hm : ∀ i, m 70 3 = -1 → m 70 2 = nI i → i ≤ n → n < i + 0) (hm0 : ¬ m 70 3 = -1 → 0 < 0) : False := by
  rcases h.2 with h | ⟨-, -, h3, -, v, i, hi, h2, -⟩
  · exact absurd (hm0 h.1) (by omega)
  · exact absurd (hm i h3 h2 hi) (by omega)
/-- the end of a number -/
theorem NL.fin {mu m m2 : Mu} {n lo hi : Nat} {s : PSt} {x first : Int32} (hn : n ≤ 60) (hh : hi < 1000) (h : NL mu m n lo hi s x) (hs : s.1 ≤ n) (hf : s.2 = true → first = nI (sk (mu 71) n s.1)) (hx : ¬ m 70 3 = -1 ∨ ∀ (v i : Nat), i ≤ n → m 70 2 = nI i → ¬ (i < n ∧ inB (mu 71 i) 48 57 = true)) (h2 : (inB x (nI lo) (nI hi) = true ∧ m2 = m) ∨ (¬ inB x (nI lo) (nI hi) = true ∧ m2 = if m 70 3 = -1 then upF m 70 3 first else m)) (hlo : lo < 1000) : ((pNm (mu 71) n lo hi s).2.2 = true → x = nI (pNm (mu 71) n lo hi s).1) ∧ fr70 mu m2 ∧ PS m2 n (pNm (mu 71) n lo hi s).2 := by
  obtain ⟨hF, h⟩ := h
  rcases h with ⟨a1, a2, a3⟩ | ⟨e, e2, b1, b2, v, i, hi', b3, b4, b5⟩
  · have em : m2 = m := by
      rcases h2 with ⟨-, q⟩ | ⟨-, q⟩
      · exact q
      · rw [q, if_neg a1]
    subst em
    exact ⟨(fun q => by rw [a3] at q; cases q), hF, a2⟩
  · have hstop := hx.resolve_left (fun q => q b1) v i hi' b3
    rw [num_at hstop] at b5
    have ep : pNm (mu 71) n lo hi s = if lo ≤ v ∧ v ≤ hi then (v, (i, true)) else (0, (sk (mu 71) n s.1, false)) := by
      unfold pNm
      rw [if_pos e, if_pos e2, ← b5]
    have hin : inB x (nI lo) (nI hi) = true ↔ lo ≤ v ∧ v ≤ hi := by
      unfold inB
      rw [decide_eq_true_eq, b4, nI_ltI (by omega) (by omega), nI_ltI (by omega) (by omega)]
      omega
    rw [ep]
    rcases h2 with ⟨q, em⟩ | ⟨q, em⟩
    · have hr := hin.mp q
      subst em
      rw [if_pos hr]
      exact ⟨(fun _ => by rw [b4, show min v 1000 = v by omega]), hF, b2, hn, hi', Or.inl ⟨rfl, b1, b3⟩⟩
    · rw [if_neg (fun h => q (hin.mpr h))]
      rw [if_pos b1] at em
      subst em
      exact ⟨(fun h => by cases h), (fun q hq => by rw [upF_k hq]; exact hF q hq), by rw [upF_i (by decide)]; exact b2, hn, (sk_le hs).1, Or.inr ⟨rfl, by rw [upF_s]; exact hf e, i, hi', by rw [upF_i (by decide)]; exact b3⟩⟩
set_option maxHeartbeats 4000000 in
set_option maxRecDepth 100000 in
theorem c_X3_number (mu : Mu) (n lo hi : Nat) (s : PSt) (hP : PS mu n s) (hlo : lo < 1000) (hh : hi < 1000) : Con yX3_number cX3_number 5 (some .int) 2 [vC 70, vI (nI lo), vI (nI hi)] mu (fun r mu2 => ((pNm (mu 71) n lo hi s).2.2 = true → r = nI (pNm (mu 71) n lo hi s).1) ∧ fr70 mu mu2 ∧ PS mu2 n (pNm (mu 71) n lo hi s).2) := by
  refine con_of (own := RX3) (by decide) rfl (Nat.le_of_ble_eq_true rfl) (fun X g hq => ?_)
  show WA X g RX3 5 cX3_number 0 [(0, vC 70), (1, vI (nI lo)), (2, vI (nI hi))] [] mu
  obtain ⟨en, hn, hs, -⟩ := id hP
  obtain ⟨pq, hpq, epq, hpqs⟩ := hP.pl
  refine o_aload_n dX3_number_0 rfl rfl (by rfl) ?_
  refine o_callV cs_X3_next cv_X3_59 (c_X3_next mu n pq en hn hpq epq) hq.2.2.2 (Nat.le_of_ble_eq_true rfl) dX3_number_1 rfl (by decide) (by rfl) (by rfl) (by rfl) rfl rfl (Nat.le_of_ble_eq_true rfl) (fun rN mN hN => ?_)
  have hN2 : ∀ q, mu 70 2 = nI q → q ≤ n → mN 70 2 = nI (sk (mu 71) n q) := fun q e hq9 => by rw [(nI_eq (by omega) (by omega)).mp (e.symm.trans epq)]; exact hN.2.2.2
  have hPN := hP.nx hN.2.2.1 hN2
  have hf : s.2 = true → mN 70 2 = nI (sk (mu 71) n s.1) := fun e => by rw [← hpqs e]; exact hN.2.2.2
  refine o_pop dX3_number_4 rfl rfl ?_
  refine o_aload_n dX3_number_5 rfl rfl (by rfl) ?_
  refine o_getI cl_X3_53 dX3_number_6 rfl (by decide) (by rfl) (by rfl) ?_
  refine o_istore_n (L' := [(0, vC 70), (1, vI (nI lo)), (2, vI (nI hi)), (3, vI (mN 70 2))]) dX3_number_9 rfl rfl (by decide) (by rfl) (by rfl) ?_
  refine o_aload_n dX3_number_10 rfl rfl (by rfl) ?_
  refine o_callV cs_X3_digit cv_X3_69 (c_X3_digit mN n _ hPN) hq.2.2.2 (Nat.le_of_ble_eq_true rfl) dX3_number_11 rfl (by decide) (by rfl) (by rfl) (by rfl) rfl rfl (Nat.le_of_ble_eq_true rfl) (fun rD mD hD => ?_)
  rw [hN.2.1 71 (by decide)] at hD
  have hL0 : NL mu mD n lo hi s rD := NL.start hP hN.2.1 hN.2.2.1 hN2 hPN hD
  refine o_istore (L' := [(0, vC 70), (1, vI (nI lo)), (2, vI (nI hi)), (3, vI (mN 70 2)), (4, vI rD)]) dX3_number_14 rfl (by decide) (by rfl) (by rfl) ?_
  have LP16 : ∀ (nLP16 : Nat) (x : Int32) (m : Mu) , (NL mu m n lo hi s x) → (∀ i, m 70 3 = -1 → m 70 2 = nI i → i ≤ n → n < i + nLP16) → (¬ m 70 3 = -1 → 0 < nLP16) → WA X g RX3 5 cX3_number 16 [(0, vC 70), (1, vI (nI lo)), (2, vI (nI hi)), (3, vI (mN 70 2)), (4, vI x)] [] m := by
    intro nLP16
    induction nLP16 with
    | zero =>
      intro x m hL hm hm0
      exact absurd hm (fun hm => hL.zero hm hm0)
    | succ nLP16 ihLP16 =>
      intro x m hL hm hm0
      refine o_aload_n dX3_number_16 rfl rfl (by rfl) ?_
      refine o_getI cl_X3_56 dX3_number_17 rfl (by decide) (by rfl) (by rfl) ?_
      refine o_iconst (v := (-1)) dX3_number_20 rfl (by decide) ?_
      refine o_icmp_ne (tgt := 93) dX3_number_21 (by decide) rfl (fun (c21 : ¬ (m 70 3) = ((-1))) => ?_) (fun (c21 : (m 70 3) = ((-1))) => ?_)
      · skip
        refine o_iload dX3_number_93 rfl (by rfl) ?_
        refine o_iload_n dX3_number_95 rfl rfl (by rfl) ?_
        refine o_iload_n dX3_number_96 rfl rfl (by rfl) ?_
        refine o_callS cs_X8_isIn ct_X3_84 (c_isIn _ x (nI lo) (nI hi)) hq.2.2.2 (Nat.le_of_ble_eq_true rfl) dX3_number_97 rfl rfl rfl (Nat.le_of_ble_eq_true rfl) (fun r3 mu3 h3 => ?_)
        obtain ⟨em, h3⟩ := h3
        rw [em]
        refine o_if_ne (tgt := 108) dX3_number_100 (by decide) rfl (fun (c100 : ¬ r3 = 0) => ?_) (fun (c100 : r3 = 0) => ?_)
        · skip
          have b100 := (if10 h3).2 c100
          refine o_iload dX3_number_108 rfl (by rfl) ?_
          exact o_iret hq dX3_number_110 (NL.fin hn hh hL hs hf (Or.inl c21) (Or.inl ⟨b100, rfl⟩) hlo)
        · skip
          have b100 := (if10 h3).1 c100
          refine o_aload_n dX3_number_103 rfl rfl (by rfl) ?_
          refine o_iload_n dX3_number_104 rfl rfl (by rfl) ?_
          refine o_callVV cs_X3_faultAt cv_X3_62 (c_X3_faultAt _ (mN 70 2)) hq.2.2.2 (Nat.le_of_ble_eq_true rfl) dX3_number_105 rfl (by decide) (by rfl) (by rfl) (by rfl) rfl rfl (Nat.le_of_ble_eq_true rfl) (fun mA hA => ?_)
          refine o_iload dX3_number_108 rfl (by rfl) ?_
          exact o_iret hq dX3_number_110 (NL.fin hn hh hL hs hf (Or.inl c21) (Or.inr ⟨b100, hA⟩) hlo)
      · skip
        obtain ⟨hs2, hdg, -, en2, v, i, hi0, ei, ex, hnum⟩ := hL.2.resolve_left (fun h => h.1 c21)
        refine o_aload_n dX3_number_24 rfl rfl (by rfl) ?_
        refine o_getI cl_X3_53 dX3_number_25 rfl (by decide) (by rfl) (by rfl) ?_
        refine o_aload_n dX3_number_28 rfl rfl (by rfl) ?_
        refine o_getI cl_X3_27 dX3_number_29 rfl (by decide) (by rfl) (by rfl) ?_
        refine o_icmp_ge (tgt := 93) dX3_number_32 (by decide) rfl (fun (c32 : (m 70 1) ≤ (m 70 2)) => ?_) (fun (c32 : ¬ (m 70 1) ≤ (m 70 2)) => ?_)
        · skip
          rw [ei, en2] at c32
          have hni := nI_dec2 c32 (by omega) (by omega)
          refine o_iload dX3_number_93 rfl (by rfl) ?_
          refine o_iload_n dX3_number_95 rfl rfl (by rfl) ?_
          refine o_iload_n dX3_number_96 rfl rfl (by rfl) ?_
          refine o_callS cs_X8_isIn ct_X3_84 (c_isIn _ x (nI lo) (nI hi)) hq.2.2.2 (Nat.le_of_ble_eq_true rfl) dX3_number_97 rfl rfl rfl (Nat.le_of_ble_eq_true rfl) (fun r5 mu5 h5 => ?_)
          obtain ⟨em, h5⟩ := h5
          rw [em]
          refine o_if_ne (tgt := 108) dX3_number_100 (by decide) rfl (fun (c100 : ¬ r5 = 0) => ?_) (fun (c100 : r5 = 0) => ?_)
          · skip
            have b100 := (if10 h5).2 c100
            refine o_iload dX3_number_108 rfl (by rfl) ?_
            exact o_iret hq dX3_number_110 (NL.fin hn hh hL hs hf (Or.inr (fun v j hj ej h => by have e := (nI_eq (by omega) (by omega)).mp (ej.symm.trans ei); omega)) (Or.inl ⟨b100, rfl⟩) hlo)
          · skip
            have b100 := (if10 h5).1 c100
            refine o_aload_n dX3_number_103 rfl rfl (by rfl) ?_
            refine o_iload_n dX3_number_104 rfl rfl (by rfl) ?_
            refine o_callVV cs_X3_faultAt cv_X3_62 (c_X3_faultAt _ (mN 70 2)) hq.2.2.2 (Nat.le_of_ble_eq_true rfl) dX3_number_105 rfl (by decide) (by rfl) (by rfl) (by rfl) rfl rfl (Nat.le_of_ble_eq_true rfl) (fun mA hA => ?_)
            refine o_iload dX3_number_108 rfl (by rfl) ?_
            exact o_iret hq dX3_number_110 (NL.fin hn hh hL hs hf (Or.inr (fun v j hj ej h => by have e := (nI_eq (by omega) (by omega)).mp (ej.symm.trans ei); omega)) (Or.inr ⟨b100, hA⟩) hlo)
        · skip
          rw [ei, en2] at c32
          have hin := nI_dec c32 (by omega) (by omega)
          refine o_aload_n dX3_number_35 rfl rfl (by rfl) ?_
          refine o_getC (q := 71) cl_X3_9 dX3_number_36 rfl (by decide) (by rfl) (by rfl) ?_
          refine o_aload_n dX3_number_39 rfl rfl (by rfl) ?_
          refine o_getI cl_X3_53 dX3_number_40 rfl (by decide) (by rfl) (by rfl) ?_
          refine o_iald dX3_number_43 rfl (by decide) (by rfl) (by rfl) (by rw [ei]; exact vp_in_nI (by omega) (by decide)) ?_
          refine o_bipush (v := 48) dX3_number_44 rfl (by decide) ?_
          refine o_bipush (v := 57) dX3_number_46 rfl (by decide) ?_
          refine o_callS cs_X8_isIn ct_X3_84 (c_isIn _ (m 71 (m 70 2).toNatClampNeg) 48 57) hq.2.2.2 (Nat.le_of_ble_eq_true rfl) dX3_number_48 rfl rfl rfl (Nat.le_of_ble_eq_true rfl) (fun r7 mu7 h7 => ?_)
          obtain ⟨em, h7⟩ := h7
          rw [em]
          refine o_if_eq (tgt := 93) dX3_number_51 (by decide) rfl (fun (c51 : r7 = 0) => ?_) (fun (c51 : ¬ r7 = 0) => ?_)
          · skip
            have b51 := (if10 h7).1 c51
            refine o_iload dX3_number_93 rfl (by rfl) ?_
            refine o_iload_n dX3_number_95 rfl rfl (by rfl) ?_
            refine o_iload_n dX3_number_96 rfl rfl (by rfl) ?_
            refine o_callS cs_X8_isIn ct_X3_84 (c_isIn _ x (nI lo) (nI hi)) hq.2.2.2 (Nat.le_of_ble_eq_true rfl) dX3_number_97 rfl rfl rfl (Nat.le_of_ble_eq_true rfl) (fun r8 mu8 h8 => ?_)
            obtain ⟨em, h8⟩ := h8
            rw [em]
            refine o_if_ne (tgt := 108) dX3_number_100 (by decide) rfl (fun (c100 : ¬ r8 = 0) => ?_) (fun (c100 : r8 = 0) => ?_)
            · skip
              have b100 := (if10 h8).2 c100
              refine o_iload dX3_number_108 rfl (by rfl) ?_
              exact o_iret hq dX3_number_110 (NL.fin hn hh hL hs hf (Or.inr (fun v j hj ej h => b51 (by have e := (nI_eq (by omega) (by omega)).mp (ej.symm.trans ei); rw [ei, nI_clamp (by omega), hL.1 71 (by decide), ← e]; exact h.2))) (Or.inl ⟨b100, rfl⟩) hlo)
            · skip
              have b100 := (if10 h8).1 c100
              refine o_aload_n dX3_number_103 rfl rfl (by rfl) ?_
              refine o_iload_n dX3_number_104 rfl rfl (by rfl) ?_
              refine o_callVV cs_X3_faultAt cv_X3_62 (c_X3_faultAt _ (mN 70 2)) hq.2.2.2 (Nat.le_of_ble_eq_true rfl) dX3_number_105 rfl (by decide) (by rfl) (by rfl) (by rfl) rfl rfl (Nat.le_of_ble_eq_true rfl) (fun mA hA => ?_)
              refine o_iload dX3_number_108 rfl (by rfl) ?_
              exact o_iret hq dX3_number_110 (NL.fin hn hh hL hs hf (Or.inr (fun v j hj ej h => b51 (by have e := (nI_eq (by omega) (by omega)).mp (ej.symm.trans ei); rw [ei, nI_clamp (by omega), hL.1 71 (by decide), ← e]; exact h.2))) (Or.inr ⟨b100, hA⟩) hlo)
          · skip
            have b51 := (if10 h7).2 c51
            obtain ⟨d, ed0, hd1, hd2⟩ := dig_nI b51
            have ed : m 71 i = nI d := by rw [ei, nI_clamp (by omega)] at ed0; exact ed0
            refine o_iload dX3_number_54 rfl (by rfl) ?_
            refine o_bipush (v := 10) dX3_number_56 rfl (by decide) ?_
            refine o_imul dX3_number_58 rfl ?_
            refine o_aload_n dX3_number_59 rfl rfl (by rfl) ?_
            refine o_getC (q := 71) cl_X3_9 dX3_number_60 rfl (by decide) (by rfl) (by rfl) ?_
            refine o_aload_n dX3_number_63 rfl rfl (by rfl) ?_
            refine o_getI cl_X3_53 dX3_number_64 rfl (by decide) (by rfl) (by rfl) ?_
            refine o_iald dX3_number_67 rfl (by decide) (by rfl) (by rfl) (by rw [ei]; exact vp_in_nI (by omega) (by decide)) ?_
            refine o_iadd dX3_number_68 rfl ?_
            refine o_bipush (v := 48) dX3_number_69 rfl (by decide) ?_
            refine o_isub dX3_number_71 rfl ?_
            refine o_sipush (v := 1000) dX3_number_72 rfl (by decide) ?_
            refine o_mmin (d := 1) mt_X3_88 hq.2.2.2 dX3_number_75 rfl (Nat.le_of_ble_eq_true rfl) ?_
            refine o_istore (L' := [(0, vC 70), (1, vI (nI lo)), (2, vI (nI hi)), (3, vI (mN 70 2)), (4, vI (if 1000 < ((x * 10) + (m 71 (m 70 2).toNatClampNeg)) - 48 then 1000 else ((x * 10) + (m 71 (m 70 2).toNatClampNeg)) - 48))]) dX3_number_78 rfl (by decide) (by rfl) (by rfl) ?_
            refine o_aload_n dX3_number_80 rfl rfl (by rfl) ?_
            refine o_dup dX3_number_81 rfl rfl ?_
            refine o_getI cl_X3_53 dX3_number_82 rfl (by decide) (by rfl) (by rfl) ?_
            refine o_iconst (v := 1) dX3_number_85 rfl (by decide) ?_
            refine o_iadd dX3_number_86 rfl ?_
            refine o_put cl_X3_53 cp_X3_2 dX3_number_87 rfl (by decide) (by rfl) (by rfl) fitI ?_
            refine o_goto (tgt := 16) dX3_number_90 (by decide) ?_
            rw [show (if 1000 < ((x * 10) + (m 71 (m 70 2).toNatClampNeg)) - 48 then 1000 else ((x * 10) + (m 71 (m 70 2).toNatClampNeg)) - 48) = nI (min (10 * v + (d - 48)) 1000) by rw [ex, ei, nI_clamp (by omega), ed]; exact min_step hd1 hd2]
            exact ihLP16 _ _ ⟨fun q hq => by rw [upF_k hq]; exact hL.1 q hq, Or.inr ⟨hs2, hdg, by rw [upF_i (by decide)]; exact c21, by rw [upF_i (by decide)]; exact en2, 10 * v + (d - 48), i + 1, by omega, by rw [upF_s, ei, nI_1], rfl, by rw [← hnum, num_go (p := i) ⟨hin, by rw [← hL.1 71 (by decide), ed]; rw [ei, nI_clamp (by omega), ed] at b51; exact b51⟩, ← hL.1 71 (by decide), ed, nI_clamp (by omega)]⟩⟩ (fun j _ e9 _ => by rw [upF_s, ei, nI_1] at e9; have := hm i c21 ei (by omega); by_cases hj : j = i + 1; omega; exact absurd ((nI_eq (by omega) (by omega)).mp e9.symm) hj) (fun h9 => absurd (by rw [upF_i (by decide)]; exact c21) h9)
  exact LP16 (n + 1) _ _ hL0 (fun i _ _ _ => by omega) (fun _ => by omega)
