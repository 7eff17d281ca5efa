/-! ===== the reference: the whole tape; toy, pulls ===== -/
theorem nI_leJ {a b : Nat} (ha : a < 2 ^ 31) (hb : b < 2 ^ 31) : nI a ≤ nI b ↔ a ≤ b := by
  rw [← Int32.not_lt, nI_ltI hb ha, Nat.not_lt]
theorem upF_selfR {mu : Mu} {k i : Nat} : upF mu k i (mu k i) k = mu k := by
  funext j
  by_cases q : j = i
  · subst q; exact upF_s
  · exact upF_i q
def RAL (mu m : Mu) (n c i : Nat) (cl : PSt → PSt) (V : PSt → Vc) (E : PSt) : Prop := PSR m n E ∧ (∀ q, q ≠ 94 → q ≠ 100 → m q = mu q) ∧ (∀ j, j ≠ 9 → j ≠ 10 → m 94 j = mu 94 j) ∧ (∀ j, j < i → (cl (SP cl (mu 99) n j)).2 = true → ∀ t, t < c → m 100 (c * j + t) = V (SP cl (mu 99) n j) t)
theorem RAL.nx {mu m m2 : Mu} {n c i : Nat} {cl : PSt → PSt} {V : PSt → Vc} (h : RAL mu m n c i cl V (SP cl (mu 99) n i)) (h2 : CLR m m2 n (c * i) c (cl (SP cl (mu 99) n i)) (V (SP cl (mu 99) n i))) : RAL mu m2 n c (i + 1) cl V (cl (SP cl (mu 99) n i)) := by
  obtain ⟨a1, a2, a3, a4⟩ := h
  obtain ⟨b1, b2, b3, b4, b5⟩ := h2
  refine ⟨b1, fun q q1 q2 => (b2 q q1 q2).trans (a2 q q1 q2), fun j j1 j2 => (b3 j j1 j2).trans (a3 j j1 j2), fun j hj e t ht => ?_⟩
  by_cases q : j = i
  · subst q
    exact b5 t ht e
  · have hj2 : c * (j + 1) ≤ c * i := Nat.mul_le_mul_left c (by omega)
    rw [Nat.mul_add, Nat.mul_one] at hj2
    rw [b4 (c * j + t) (by omega)]
    exact a4 j (by omega) e t ht
theorem RAL.go {mu m m2 : Mu} {n c i : Nat} {cl : PSt → PSt} {V : PSt → Vc} {E E2 : PSt} (h : RAL mu m n c i cl V E) (h2 : frW m m2) (hp : PSR m2 n E2) : RAL mu m2 n c i cl V E2 := by
  obtain ⟨a1, a2, a3, a4⟩ := h
  exact ⟨hp, fun q q1 q2 => (h2.1 q q1).trans (a2 q q1 q2), fun j j1 j2 => (h2.2 j j1 j2).trans (a3 j j1 j2), fun j hj e t ht => by rw [h2.1 100 (by decide)]; exact a4 j hj e t ht⟩
/-- the tape read -/
def RDR (mu m : Mu) (n c M : Nat) (cl : PSt → PSt) (V : PSt → Vc) (r : Int32) : Prop := ∃ N E, RdN cl (mu 99) n M N E ∧ E.1 ≤ n ∧ r = fnR (mu 99) n (nI N) E ∧ m 94 8 = 0 ∧ (∀ q, q ≠ 94 → q ≠ 100 → m q = mu q) ∧ (∀ j, j ≠ 8 → j ≠ 9 → j ≠ 10 → m 94 j = mu 94 j) ∧ (E.2 = true → ∀ j, j < N → ∀ t, t < c → m 100 (c * j + t) = V (SP cl (mu 99) n j) t)
theorem RAL.fin {mu m m2 : Mu} {n c M N : Nat} {cl : PSt → PSt} {V : PSt → Vc} {E : PSt} {r : Int32} (h : RAL mu m n c N cl V E) (hR : RdN cl (mu 99) n M N E) (hr : r = fnR (mu 99) n (nI N) E) (h8 : m2 94 8 = 0) (h1 : ∀ q, q ≠ 94 → m2 q = m q) (h2 : ∀ j, j ≠ 8 → j ≠ 9 → j ≠ 10 → m2 94 j = m 94 j) : RDR mu m2 n c M cl V r := by
  obtain ⟨a1, a2, a3, a4⟩ := h
  exact ⟨N, E, hR, a1.2.2.1, hr, h8, fun q q1 q2 => (h1 q q1).trans (a2 q q1 q2), fun j j1 j2 j3 => (h2 j j1 j2 j3).trans (a3 j j2 j3), fun e j hj t ht => by rw [h1 100 (by decide)]; exact a4 j hj (hR.ok e j hj) t ht⟩
theorem nxR_0 {T : Vc} {n p : Nat} (hT : ∀ i, i < n → ¬ T i = 0 ∧ ¬ T i = -1) : nxR T n p = 0 ↔ nx T n p = -1 := by
  unfold nxR nx
  split
  · rename_i q
    exact ⟨fun h => absurd h (hT _ q).1, fun h => absurd h (hT _ q).2⟩
  · exact ⟨fun _ => rfl, fun _ => rfl⟩
theorem PSR.beg {mu : Mu} {n : Nat} (en : mu 94 8 = nI n) (hn : n ≤ 60) : PSR (upF (upF mu 94 9 0) 94 10 0) n (0, true) :=
  ⟨by rw [upF_i (by decide), upF_i (by decide)]; exact en, hn, Nat.zero_le _, by rw [upF_i (by decide), upF_s]; rfl, by rw [upF_s]; rfl⟩
theorem RAL.beg {mu : Mu} {n c : Nat} {cl : PSt → PSt} {V : PSt → Vc} (en : mu 94 8 = nI n) (hn : n ≤ 60) : RAL mu (upF (upF mu 94 9 0) 94 10 0) n c 0 cl V (SP cl (mu 99) n 0) :=
  ⟨PSR.beg en hn, fun q q1 _ => by rw [upF_k q1, upF_k q1], fun j j1 j2 => by rw [upF_i j2, upF_i j1], fun j hj => by omega⟩
set_option maxHeartbeats 4000000 in
set_option maxRecDepth 100000 in
theorem c_X9_readAll1 (mu : Mu) (n : Nat) (en : mu 94 8 = nI n) (hn : n ≤ 60) (hT : ∀ i, i < n → ¬ mu 99 i = 0 ∧ ¬ mu 99 i = -1) : Con yX9_readAll cX9_readAll 4 (some .int) 4 [vC 94, vI 1] mu (fun r mu2 => RDR mu mu2 n 5 4 (pCup (mu 99) n) (cupV (mu 99) n) r) := by
  refine con_of (own := RX9) (by decide) rfl (Nat.le_of_ble_eq_true rfl) (fun X g hq => ?_)
  show WA X g RX9 4 cX9_readAll 0 [(0, vC 94), (1, vI 1)] [] mu
  refine o_aload_n dX9_readAll_0 rfl rfl (by rfl) ?_
  refine o_iconst (v := 0) dX9_readAll_1 rfl (by decide) ?_
  refine o_put cl_X9_118 cp_X9_9 dX9_readAll_2 rfl (by decide) (by rfl) (by rfl) fitI ?_
  refine o_aload_n dX9_readAll_5 rfl rfl (by rfl) ?_
  refine o_iconst (v := 0) dX9_readAll_6 rfl (by decide) ?_
  refine o_put cl_X9_121 cp_X9_10 dX9_readAll_7 rfl (by decide) (by rfl) (by rfl) (fitZ (Or.inl rfl)) ?_
  refine o_iconst (v := 0) dX9_readAll_10 rfl (by decide) ?_
  refine o_istore_n (L' := [(0, vC 94), (1, vI 1), (2, vI 0)]) dX9_readAll_11 rfl rfl (by decide) (by rfl) (by rfl) ?_
  refine o_iconst (v := 1) dX9_readAll_12 rfl (by decide) ?_
  refine o_istore_n (L' := [(0, vC 94), (1, vI 1), (2, vI 0), (3, vI 1)]) dX9_readAll_13 rfl rfl (by decide) (by rfl) (by rfl) ?_
  have LP14 : ∀ (nLP14 : Nat) (i : Nat) (x : Int32) (E : PSt) (m : Mu) , (RAL mu m n 5 i (pCup (mu 99) n) (cupV (mu 99) n) E) → ((x = 1 ∧ i < 4 ∧ E = SP (pCup (mu 99) n) (mu 99) n i ∧ ∀ j, j < i → Mor (pCup (mu 99) n) (mu 99) n j) ∨ (x = 0 ∧ RdN (pCup (mu 99) n) (mu 99) n 4 i E)) → (x = 1 → 4 < i + nLP14) → (0 < nLP14) → WA X g RX9 4 cX9_readAll 14 [(0, vC 94), (1, vI 1), (2, vI (nI i)), (3, vI x)] [] m := by
    intro nLP14
    induction nLP14 with
    | zero =>
      intro i x E m hL hC0 hm hm0
      exact absurd hm0 (by omega)
    | succ nLP14 ihLP14 =>
      intro i x E m hL hC0 hm hm0
      refine o_iload_n dX9_readAll_14 rfl rfl (by rfl) ?_
      refine o_if_eq (tgt := 74) dX9_readAll_15 (by decide) rfl (fun (c15 : x = 0) => ?_) (fun (c15 : ¬ x = 0) => ?_)
      · skip
        have hR := (hC0.resolve_left (fun h9 => by rw [h9.1] at c15; exact absurd c15 (by decide))).2
        refine o_aload_n dX9_readAll_74 rfl rfl (by rfl) ?_
        refine o_aload_n dX9_readAll_75 rfl rfl (by rfl) ?_
        refine o_getI cl_X9_121 dX9_readAll_76 rfl (by decide) (by rfl) (by rfl) ?_
        refine o_if_ne (tgt := 89) dX9_readAll_79 (by decide) rfl (fun (c79 : ¬ (m 94 10) = 0) => ?_) (fun (c79 : (m 94 10) = 0) => ?_)
        · skip
          have hno := hL.1.no c79
          refine o_iconst (v := 1) dX9_readAll_89 rfl (by decide) ?_
          refine o_goto (tgt := 94) dX9_readAll_90 (by decide) ?_
          refine o_put cl_X9_121 cp_X9_10 dX9_readAll_94 rfl (by decide) (by rfl) (by rfl) (fitZ (Or.inr rfl)) ?_
          refine o_aload_n dX9_readAll_97 rfl rfl (by rfl) ?_
          refine o_iconst (v := 0) dX9_readAll_98 rfl (by decide) ?_
          refine o_put cl_X9_115 cp_X9_8 dX9_readAll_99 rfl (by decide) (by rfl) (by rfl) fitI ?_
          refine o_aload_n dX9_readAll_102 rfl rfl (by rfl) ?_
          refine o_getI cl_X9_121 dX9_readAll_103 rfl (by decide) (by rfl) (by rfl) ?_
          refine o_if_eq (tgt := 119) dX9_readAll_106 (by decide) rfl (fun (c106 : (1 : Int32) = 0) => ?_) (fun (c106 : ¬ (1 : Int32) = 0) => ?_)
          · skip
            exact absurd c106 (by decide)
          · skip
            refine o_bipush (v := (-20)) dX9_readAll_109 rfl (by decide) ?_
            refine o_aload_n dX9_readAll_111 rfl rfl (by rfl) ?_
            refine o_getI cl_X9_118 dX9_readAll_112 rfl (by decide) (by rfl) (by rfl) ?_
            refine o_isub dX9_readAll_115 rfl ?_
            refine o_goto (tgt := 120) dX9_readAll_116 (by decide) ?_
            exact o_iret hq dX9_readAll_120 (hL.fin hR (by unfold fnR; rw [if_neg (by rw [hno]; decide), upF_i (by decide), upF_i (by decide), hL.1.2.2.2.1]) upF_s (fun q hq9 => by rw [upF_k hq9, upF_k hq9]) (fun j j1 _ j3 => by rw [upF_i j1, upF_i j3]))
        · skip
          have hok := hL.1.ok c79
          refine o_aload_n dX9_readAll_82 rfl rfl (by rfl) ?_
          refine o_callV cs_X9_here cv_X9_125 (c_X9_here m n E.1 hL.1.1 hL.1.2.1 hL.1.2.2.1 hL.1.2.2.2.1) hq.2.2.2 (Nat.le_of_ble_eq_true rfl) dX9_readAll_83 rfl (by decide) (by rfl) (by rfl) (by rfl) rfl rfl (Nat.le_of_ble_eq_true rfl) (fun rH1 mH1 hH1 => ?_)
          have e99 : m 99 = mu 99 := hL.2.1 99 (by decide) (by decide)
          refine o_if_eq (tgt := 93) dX9_readAll_86 (by decide) rfl (fun (c86 : rH1 = 0) => ?_) (fun (c86 : ¬ rH1 = 0) => ?_)
          · skip
            have hz : nxR (mu 99) n E.1 = 0 := by rw [hH1.1, e99] at c86; exact c86
            refine o_iconst (v := 0) dX9_readAll_93 rfl (by decide) ?_
            refine o_put cl_X9_121 cp_X9_10 dX9_readAll_94 rfl (by decide) (by rfl) (by rfl) (fitZ (Or.inl rfl)) ?_
            refine o_aload_n dX9_readAll_97 rfl rfl (by rfl) ?_
            refine o_iconst (v := 0) dX9_readAll_98 rfl (by decide) ?_
            refine o_put cl_X9_115 cp_X9_8 dX9_readAll_99 rfl (by decide) (by rfl) (by rfl) fitI ?_
            refine o_aload_n dX9_readAll_102 rfl rfl (by rfl) ?_
            refine o_getI cl_X9_121 dX9_readAll_103 rfl (by decide) (by rfl) (by rfl) ?_
            refine o_if_eq (tgt := 119) dX9_readAll_106 (by decide) rfl (fun (c106 : (0 : Int32) = 0) => ?_) (fun (c106 : ¬ (0 : Int32) = 0) => ?_)
            · skip
              refine o_iload_n dX9_readAll_119 rfl rfl (by rfl) ?_
              exact o_iret hq dX9_readAll_120 (hL.fin hR (by unfold fnR; rw [if_pos hok, if_pos ((nxR_0 hT).mp hz)]) upF_s (fun q hq9 => by rw [upF_k hq9, upF_k hq9]; exact hH1.2.1 q hq9) (fun j j1 j2 j3 => by rw [upF_i j1, upF_i j3]; exact hH1.2.2.1 j j2))
            · skip
              exact absurd (by decide) c106
          · skip
            have hz : ¬ nxR (mu 99) n E.1 = 0 := by rw [hH1.1, e99] at c86; exact c86
            refine o_iconst (v := 1) dX9_readAll_89 rfl (by decide) ?_
            refine o_goto (tgt := 94) dX9_readAll_90 (by decide) ?_
            refine o_put cl_X9_121 cp_X9_10 dX9_readAll_94 rfl (by decide) (by rfl) (by rfl) (fitZ (Or.inr rfl)) ?_
            refine o_aload_n dX9_readAll_97 rfl rfl (by rfl) ?_
            refine o_iconst (v := 0) dX9_readAll_98 rfl (by decide) ?_
            refine o_put cl_X9_115 cp_X9_8 dX9_readAll_99 rfl (by decide) (by rfl) (by rfl) fitI ?_
            refine o_aload_n dX9_readAll_102 rfl rfl (by rfl) ?_
            refine o_getI cl_X9_121 dX9_readAll_103 rfl (by decide) (by rfl) (by rfl) ?_
            refine o_if_eq (tgt := 119) dX9_readAll_106 (by decide) rfl (fun (c106 : (1 : Int32) = 0) => ?_) (fun (c106 : ¬ (1 : Int32) = 0) => ?_)
            · skip
              exact absurd c106 (by decide)
            · skip
              refine o_bipush (v := (-20)) dX9_readAll_109 rfl (by decide) ?_
              refine o_aload_n dX9_readAll_111 rfl rfl (by rfl) ?_
              refine o_getI cl_X9_118 dX9_readAll_112 rfl (by decide) (by rfl) (by rfl) ?_
              refine o_isub dX9_readAll_115 rfl ?_
              refine o_goto (tgt := 120) dX9_readAll_116 (by decide) ?_
              exact o_iret hq dX9_readAll_120 (hL.fin hR (by unfold fnR; rw [if_pos hok, if_neg (fun h9 => hz ((nxR_0 hT).mpr h9)), upF_i (by decide), upF_i (by decide), hH1.2.2.2, e99]) upF_s (fun q hq9 => by rw [upF_k hq9, upF_k hq9]; exact hH1.2.1 q hq9) (fun j j1 j2 j3 => by rw [upF_i j1, upF_i j3]; exact hH1.2.2.1 j j2))
      · skip
        obtain ⟨hx1, hi2, hE, hM⟩ := hC0.resolve_right (fun h9 => c15 h9.1)
        have hm2 := hm hx1
        refine o_iload_n dX9_readAll_18 rfl rfl (by rfl) ?_
        refine o_if_eq (tgt := 32) dX9_readAll_19 (by decide) rfl (fun (c19 : (1 : Int32) = 0) => ?_) (fun (c19 : ¬ (1 : Int32) = 0) => ?_)
        · skip
          exact absurd c19 (by decide)
        · skip
          refine o_aload_n dX9_readAll_22 rfl rfl (by rfl) ?_
          refine o_iconst (v := 5) dX9_readAll_23 rfl (by decide) ?_
          refine o_iload_n dX9_readAll_24 rfl rfl (by rfl) ?_
          refine o_imul dX9_readAll_25 rfl ?_
          refine o_callVV cs_X9_cupClause cv_X9_146 (c_X9_cupClause m n (SP (pCup (mu 99) n) (mu 99) n i) (hE ▸ hL.1) _ (5 * i) (by rw [show (5 : Int32) = nI 5 from rfl, pk_mul]) (by omega)) hq.2.2.2 (Nat.le_of_ble_eq_true rfl) dX9_readAll_26 rfl (by decide) (by rfl) (by rfl) (by rfl) rfl rfl (Nat.le_of_ble_eq_true rfl) (fun mC hC => ?_)
          rw [hL.2.1 99 (by decide) (by decide)] at hC
          rw [hE] at hL
          have hN : RAL mu mC n 5 (i + 1) (pCup (mu 99) n) (cupV (mu 99) n) (pCup (mu 99) n (SP (pCup (mu 99) n) (mu 99) n i)) := hL.nx hC
          refine o_goto (tgt := 39) dX9_readAll_29 (by decide) ?_
          refine o_iinc (v := nI (i + 1)) (L' := [(0, vC 94), (1, vI 1), (2, vI (nI (i + 1))), (3, vI x)]) dX9_readAll_39 rfl (by rfl) (by exact nI_1 i) (by decide) (by rfl) (by rfl) ?_
          refine o_iload_n dX9_readAll_42 rfl rfl (by rfl) ?_
          refine o_iload_n dX9_readAll_43 rfl rfl (by rfl) ?_
          refine o_if_eq (tgt := 51) dX9_readAll_44 (by decide) rfl (fun (c44 : (1 : Int32) = 0) => ?_) (fun (c44 : ¬ (1 : Int32) = 0) => ?_)
          · skip
            exact absurd c44 (by decide)
          · skip
            refine o_iconst (v := 4) dX9_readAll_47 rfl (by decide) ?_
            refine o_goto (tgt := 53) dX9_readAll_48 (by decide) ?_
            refine o_icmp_ge (tgt := 69) dX9_readAll_53 (by decide) rfl (fun (c53 : 4 ≤ (nI (i + 1))) => ?_) (fun (c53 : ¬ 4 ≤ (nI (i + 1))) => ?_)
            · skip
              have hi3 := nI_dec2 (b := 4) c53 (by omega) (by decide)
              refine o_iconst (v := 0) dX9_readAll_69 rfl (by decide) ?_
              refine o_istore_n (L' := [(0, vC 94), (1, vI 1), (2, vI (nI (i + 1))), (3, vI 0)]) dX9_readAll_70 rfl rfl (by decide) (by rfl) (by rfl) ?_
              refine o_goto (tgt := 14) dX9_readAll_71 (by decide) ?_
              exact ihLP14 (i + 1) 0 _ _ hN (Or.inr ⟨rfl, by omega, by omega, fun j hj => hM j (by omega), Or.inl ⟨by omega, by rw [← show i + 1 = 4 by omega]; rfl⟩⟩) (fun h9 => absurd h9 (by decide)) (by omega)
            · skip
              have hi3 := nI_dec (b := 4) c53 (by omega) (by decide)
              refine o_aload_n dX9_readAll_56 rfl rfl (by rfl) ?_
              refine o_bipush (v := 59) dX9_readAll_57 rfl (by decide) ?_
              refine o_callV cs_X9_has cv_X9_133 (c_X9_has mC n _ hN.1 59 (by decide) (by decide)) hq.2.2.2 (Nat.le_of_ble_eq_true rfl) dX9_readAll_59 rfl (by decide) (by rfl) (by rfl) (by rfl) rfl rfl (Nat.le_of_ble_eq_true rfl) (fun rT mT hT9 => ?_)
              rw [hN.2.1 99 (by decide) (by decide)] at hT9
              obtain ⟨eT, fT, pT⟩ := hT9
              have hN2 : RAL mu mT n 5 (i + 1) (pCup (mu 99) n) (cupV (mu 99) n) (SP (pCup (mu 99) n) (mu 99) n (i + 1)) := hN.go fT pT
              refine o_if_eq (tgt := 69) dX9_readAll_62 (by decide) rfl (fun (c62 : rT = 0) => ?_) (fun (c62 : ¬ rT = 0) => ?_)
              · skip
                have b62 := (if10 eT).1 c62
                refine o_iconst (v := 0) dX9_readAll_69 rfl (by decide) ?_
                refine o_istore_n (L' := [(0, vC 94), (1, vI 1), (2, vI (nI (i + 1))), (3, vI 0)]) dX9_readAll_70 rfl rfl (by decide) (by rfl) (by rfl) ?_
                refine o_goto (tgt := 14) dX9_readAll_71 (by decide) ?_
                exact ihLP14 (i + 1) 0 _ _ hN2 (Or.inr ⟨rfl, by omega, by omega, fun j hj => hM j (by omega), Or.inr ⟨by omega, b62, rfl⟩⟩) (fun h9 => absurd h9 (by decide)) (by omega)
              · skip
                have b62 := (if10 eT).2 c62
                refine o_iconst (v := 1) dX9_readAll_65 rfl (by decide) ?_
                refine o_goto (tgt := 70) dX9_readAll_66 (by decide) ?_
                refine o_istore_n (L' := [(0, vC 94), (1, vI 1), (2, vI (nI (i + 1))), (3, vI 1)]) dX9_readAll_70 rfl rfl (by decide) (by rfl) (by rfl) ?_
                refine o_goto (tgt := 14) dX9_readAll_71 (by decide) ?_
                exact ihLP14 (i + 1) 1 _ _ hN2 (Or.inl ⟨rfl, by omega, rfl, fun j hj => if e9 : j < i then hM j e9 else (show j = i by omega) ▸ b62⟩) (fun _ => by omega) (by omega)
  exact LP14 5 0 1 _ _ (RAL.beg en hn) (Or.inl ⟨rfl, by omega, rfl, fun j hj => by omega⟩) (fun _ => by omega) (by omega)
set_option maxHeartbeats 4000000 in
set_option maxRecDepth 100000 in
theorem c_X9_readAll0 (mu : Mu) (n : Nat) (en : mu 94 8 = nI n) (hn : n ≤ 60) (hT : ∀ i, i < n → ¬ mu 99 i = 0 ∧ ¬ mu 99 i = -1) : Con yX9_readAll cX9_readAll 4 (some .int) 4 [vC 94, vI 0] mu (fun r mu2 => RDR mu mu2 n 3 6 (pPart (mu 99) n) (partV (mu 99) n) r) := by
  refine con_of (own := RX9) (by decide) rfl (Nat.le_of_ble_eq_true rfl) (fun X g hq => ?_)
  show WA X g RX9 4 cX9_readAll 0 [(0, vC 94), (1, vI 0)] [] mu
  refine o_aload_n dX9_readAll_0 rfl rfl (by rfl) ?_
  refine o_iconst (v := 0) dX9_readAll_1 rfl (by decide) ?_
  refine o_put cl_X9_118 cp_X9_9 dX9_readAll_2 rfl (by decide) (by rfl) (by rfl) fitI ?_
  refine o_aload_n dX9_readAll_5 rfl rfl (by rfl) ?_
  refine o_iconst (v := 0) dX9_readAll_6 rfl (by decide) ?_
  refine o_put cl_X9_121 cp_X9_10 dX9_readAll_7 rfl (by decide) (by rfl) (by rfl) (fitZ (Or.inl rfl)) ?_
  refine o_iconst (v := 0) dX9_readAll_10 rfl (by decide) ?_
  refine o_istore_n (L' := [(0, vC 94), (1, vI 0), (2, vI 0)]) dX9_readAll_11 rfl rfl (by decide) (by rfl) (by rfl) ?_
  refine o_iconst (v := 1) dX9_readAll_12 rfl (by decide) ?_
  refine o_istore_n (L' := [(0, vC 94), (1, vI 0), (2, vI 0), (3, vI 1)]) dX9_readAll_13 rfl rfl (by decide) (by rfl) (by rfl) ?_
  have LP14 : ∀ (nLP14 : Nat) (i : Nat) (x : Int32) (E : PSt) (m : Mu) , (RAL mu m n 3 i (pPart (mu 99) n) (partV (mu 99) n) E) → ((x = 1 ∧ i < 6 ∧ E = SP (pPart (mu 99) n) (mu 99) n i ∧ ∀ j, j < i → Mor (pPart (mu 99) n) (mu 99) n j) ∨ (x = 0 ∧ RdN (pPart (mu 99) n) (mu 99) n 6 i E)) → (x = 1 → 6 < i + nLP14) → (0 < nLP14) → WA X g RX9 4 cX9_readAll 14 [(0, vC 94), (1, vI 0), (2, vI (nI i)), (3, vI x)] [] m := by
    intro nLP14
    induction nLP14 with
    | zero =>
      intro i x E m hL hC0 hm hm0
      exact absurd hm0 (by omega)
    | succ nLP14 ihLP14 =>
      intro i x E m hL hC0 hm hm0
      refine o_iload_n dX9_readAll_14 rfl rfl (by rfl) ?_
      refine o_if_eq (tgt := 74) dX9_readAll_15 (by decide) rfl (fun (c15 : x = 0) => ?_) (fun (c15 : ¬ x = 0) => ?_)
      · skip
        have hR := (hC0.resolve_left (fun h9 => by rw [h9.1] at c15; exact absurd c15 (by decide))).2
        refine o_aload_n dX9_readAll_74 rfl rfl (by rfl) ?_
        refine o_aload_n dX9_readAll_75 rfl rfl (by rfl) ?_
        refine o_getI cl_X9_121 dX9_readAll_76 rfl (by decide) (by rfl) (by rfl) ?_
        refine o_if_ne (tgt := 89) dX9_readAll_79 (by decide) rfl (fun (c79 : ¬ (m 94 10) = 0) => ?_) (fun (c79 : (m 94 10) = 0) => ?_)
        · skip
          have hno := hL.1.no c79
          refine o_iconst (v := 1) dX9_readAll_89 rfl (by decide) ?_
          refine o_goto (tgt := 94) dX9_readAll_90 (by decide) ?_
          refine o_put cl_X9_121 cp_X9_10 dX9_readAll_94 rfl (by decide) (by rfl) (by rfl) (fitZ (Or.inr rfl)) ?_
          refine o_aload_n dX9_readAll_97 rfl rfl (by rfl) ?_
          refine o_iconst (v := 0) dX9_readAll_98 rfl (by decide) ?_
          refine o_put cl_X9_115 cp_X9_8 dX9_readAll_99 rfl (by decide) (by rfl) (by rfl) fitI ?_
          refine o_aload_n dX9_readAll_102 rfl rfl (by rfl) ?_
          refine o_getI cl_X9_121 dX9_readAll_103 rfl (by decide) (by rfl) (by rfl) ?_
          refine o_if_eq (tgt := 119) dX9_readAll_106 (by decide) rfl (fun (c106 : (1 : Int32) = 0) => ?_) (fun (c106 : ¬ (1 : Int32) = 0) => ?_)
          · skip
            exact absurd c106 (by decide)
          · skip
            refine o_bipush (v := (-20)) dX9_readAll_109 rfl (by decide) ?_
            refine o_aload_n dX9_readAll_111 rfl rfl (by rfl) ?_
            refine o_getI cl_X9_118 dX9_readAll_112 rfl (by decide) (by rfl) (by rfl) ?_
            refine o_isub dX9_readAll_115 rfl ?_
            refine o_goto (tgt := 120) dX9_readAll_116 (by decide) ?_
            exact o_iret hq dX9_readAll_120 (hL.fin hR (by unfold fnR; rw [if_neg (by rw [hno]; decide), upF_i (by decide), upF_i (by decide), hL.1.2.2.2.1]) upF_s (fun q hq9 => by rw [upF_k hq9, upF_k hq9]) (fun j j1 _ j3 => by rw [upF_i j1, upF_i j3]))
        · skip
          have hok := hL.1.ok c79
          refine o_aload_n dX9_readAll_82 rfl rfl (by rfl) ?_
          refine o_callV cs_X9_here cv_X9_125 (c_X9_here m n E.1 hL.1.1 hL.1.2.1 hL.1.2.2.1 hL.1.2.2.2.1) hq.2.2.2 (Nat.le_of_ble_eq_true rfl) dX9_readAll_83 rfl (by decide) (by rfl) (by rfl) (by rfl) rfl rfl (Nat.le_of_ble_eq_true rfl) (fun rH1 mH1 hH1 => ?_)
          have e99 : m 99 = mu 99 := hL.2.1 99 (by decide) (by decide)
          refine o_if_eq (tgt := 93) dX9_readAll_86 (by decide) rfl (fun (c86 : rH1 = 0) => ?_) (fun (c86 : ¬ rH1 = 0) => ?_)
          · skip
            have hz : nxR (mu 99) n E.1 = 0 := by rw [hH1.1, e99] at c86; exact c86
            refine o_iconst (v := 0) dX9_readAll_93 rfl (by decide) ?_
            refine o_put cl_X9_121 cp_X9_10 dX9_readAll_94 rfl (by decide) (by rfl) (by rfl) (fitZ (Or.inl rfl)) ?_
            refine o_aload_n dX9_readAll_97 rfl rfl (by rfl) ?_
            refine o_iconst (v := 0) dX9_readAll_98 rfl (by decide) ?_
            refine o_put cl_X9_115 cp_X9_8 dX9_readAll_99 rfl (by decide) (by rfl) (by rfl) fitI ?_
            refine o_aload_n dX9_readAll_102 rfl rfl (by rfl) ?_
            refine o_getI cl_X9_121 dX9_readAll_103 rfl (by decide) (by rfl) (by rfl) ?_
            refine o_if_eq (tgt := 119) dX9_readAll_106 (by decide) rfl (fun (c106 : (0 : Int32) = 0) => ?_) (fun (c106 : ¬ (0 : Int32) = 0) => ?_)
            · skip
              refine o_iload_n dX9_readAll_119 rfl rfl (by rfl) ?_
              exact o_iret hq dX9_readAll_120 (hL.fin hR (by unfold fnR; rw [if_pos hok, if_pos ((nxR_0 hT).mp hz)]) upF_s (fun q hq9 => by rw [upF_k hq9, upF_k hq9]; exact hH1.2.1 q hq9) (fun j j1 j2 j3 => by rw [upF_i j1, upF_i j3]; exact hH1.2.2.1 j j2))
            · skip
              exact absurd (by decide) c106
          · skip
            have hz : ¬ nxR (mu 99) n E.1 = 0 := by rw [hH1.1, e99] at c86; exact c86
            refine o_iconst (v := 1) dX9_readAll_89 rfl (by decide) ?_
            refine o_goto (tgt := 94) dX9_readAll_90 (by decide) ?_
            refine o_put cl_X9_121 cp_X9_10 dX9_readAll_94 rfl (by decide) (by rfl) (by rfl) (fitZ (Or.inr rfl)) ?_
            refine o_aload_n dX9_readAll_97 rfl rfl (by rfl) ?_
            refine o_iconst (v := 0) dX9_readAll_98 rfl (by decide) ?_
            refine o_put cl_X9_115 cp_X9_8 dX9_readAll_99 rfl (by decide) (by rfl) (by rfl) fitI ?_
            refine o_aload_n dX9_readAll_102 rfl rfl (by rfl) ?_
            refine o_getI cl_X9_121 dX9_readAll_103 rfl (by decide) (by rfl) (by rfl) ?_
            refine o_if_eq (tgt := 119) dX9_readAll_106 (by decide) rfl (fun (c106 : (1 : Int32) = 0) => ?_) (fun (c106 : ¬ (1 : Int32) = 0) => ?_)
            · skip
              exact absurd c106 (by decide)
            · skip
              refine o_bipush (v := (-20)) dX9_readAll_109 rfl (by decide) ?_
              refine o_aload_n dX9_readAll_111 rfl rfl (by rfl) ?_
              refine o_getI cl_X9_118 dX9_readAll_112 rfl (by decide) (by rfl) (by rfl) ?_
              refine o_isub dX9_readAll_115 rfl ?_
              refine o_goto (tgt := 120) dX9_readAll_116 (by decide) ?_
              exact o_iret hq dX9_readAll_120 (hL.fin hR (by unfold fnR; rw [if_pos hok, if_neg (fun h9 => hz ((nxR_0 hT).mpr h9)), upF_i (by decide), upF_i (by decide), hH1.2.2.2, e99]) upF_s (fun q hq9 => by rw [upF_k hq9, upF_k hq9]; exact hH1.2.1 q hq9) (fun j j1 j2 j3 => by rw [upF_i j1, upF_i j3]; exact hH1.2.2.1 j j2))
      · skip
        obtain ⟨hx1, hi2, hE, hM⟩ := hC0.resolve_right (fun h9 => c15 h9.1)
        have hm2 := hm hx1
        refine o_iload_n dX9_readAll_18 rfl rfl (by rfl) ?_
        refine o_if_eq (tgt := 32) dX9_readAll_19 (by decide) rfl (fun (c19 : (0 : Int32) = 0) => ?_) (fun (c19 : ¬ (0 : Int32) = 0) => ?_)
        · skip
          refine o_aload_n dX9_readAll_32 rfl rfl (by rfl) ?_
          refine o_iconst (v := 3) dX9_readAll_33 rfl (by decide) ?_
          refine o_iload_n dX9_readAll_34 rfl rfl (by rfl) ?_
          refine o_imul dX9_readAll_35 rfl ?_
          refine o_callVV cs_X9_partClause cv_X9_150 (c_X9_partClause m n (SP (pPart (mu 99) n) (mu 99) n i) (hE ▸ hL.1) _ (3 * i) (by rw [show (3 : Int32) = nI 3 from rfl, pk_mul]) (by omega)) hq.2.2.2 (Nat.le_of_ble_eq_true rfl) dX9_readAll_36 rfl (by decide) (by rfl) (by rfl) (by rfl) rfl rfl (Nat.le_of_ble_eq_true rfl) (fun mC hC => ?_)
          rw [hL.2.1 99 (by decide) (by decide)] at hC
          rw [hE] at hL
          have hN : RAL mu mC n 3 (i + 1) (pPart (mu 99) n) (partV (mu 99) n) (pPart (mu 99) n (SP (pPart (mu 99) n) (mu 99) n i)) := hL.nx hC
          refine o_iinc (v := nI (i + 1)) (L' := [(0, vC 94), (1, vI 0), (2, vI (nI (i + 1))), (3, vI x)]) dX9_readAll_39 rfl (by rfl) (by exact nI_1 i) (by decide) (by rfl) (by rfl) ?_
          refine o_iload_n dX9_readAll_42 rfl rfl (by rfl) ?_
          refine o_iload_n dX9_readAll_43 rfl rfl (by rfl) ?_
          refine o_if_eq (tgt := 51) dX9_readAll_44 (by decide) rfl (fun (c44 : (0 : Int32) = 0) => ?_) (fun (c44 : ¬ (0 : Int32) = 0) => ?_)
          · skip
            refine o_bipush (v := 6) dX9_readAll_51 rfl (by decide) ?_
            refine o_icmp_ge (tgt := 69) dX9_readAll_53 (by decide) rfl (fun (c53 : 6 ≤ (nI (i + 1))) => ?_) (fun (c53 : ¬ 6 ≤ (nI (i + 1))) => ?_)
            · skip
              have hi3 := nI_dec2 (b := 6) c53 (by omega) (by decide)
              refine o_iconst (v := 0) dX9_readAll_69 rfl (by decide) ?_
              refine o_istore_n (L' := [(0, vC 94), (1, vI 0), (2, vI (nI (i + 1))), (3, vI 0)]) dX9_readAll_70 rfl rfl (by decide) (by rfl) (by rfl) ?_
              refine o_goto (tgt := 14) dX9_readAll_71 (by decide) ?_
              exact ihLP14 (i + 1) 0 _ _ hN (Or.inr ⟨rfl, by omega, by omega, fun j hj => hM j (by omega), Or.inl ⟨by omega, by rw [← show i + 1 = 6 by omega]; rfl⟩⟩) (fun h9 => absurd h9 (by decide)) (by omega)
            · skip
              have hi3 := nI_dec (b := 6) c53 (by omega) (by decide)
              refine o_aload_n dX9_readAll_56 rfl rfl (by rfl) ?_
              refine o_bipush (v := 59) dX9_readAll_57 rfl (by decide) ?_
              refine o_callV cs_X9_has cv_X9_133 (c_X9_has mC n _ hN.1 59 (by decide) (by decide)) hq.2.2.2 (Nat.le_of_ble_eq_true rfl) dX9_readAll_59 rfl (by decide) (by rfl) (by rfl) (by rfl) rfl rfl (Nat.le_of_ble_eq_true rfl) (fun rT mT hT9 => ?_)
              rw [hN.2.1 99 (by decide) (by decide)] at hT9
              obtain ⟨eT, fT, pT⟩ := hT9
              have hN2 : RAL mu mT n 3 (i + 1) (pPart (mu 99) n) (partV (mu 99) n) (SP (pPart (mu 99) n) (mu 99) n (i + 1)) := hN.go fT pT
              refine o_if_eq (tgt := 69) dX9_readAll_62 (by decide) rfl (fun (c62 : rT = 0) => ?_) (fun (c62 : ¬ rT = 0) => ?_)
              · skip
                have b62 := (if10 eT).1 c62
                refine o_iconst (v := 0) dX9_readAll_69 rfl (by decide) ?_
                refine o_istore_n (L' := [(0, vC 94), (1, vI 0), (2, vI (nI (i + 1))), (3, vI 0)]) dX9_readAll_70 rfl rfl (by decide) (by rfl) (by rfl) ?_
                refine o_goto (tgt := 14) dX9_readAll_71 (by decide) ?_
                exact ihLP14 (i + 1) 0 _ _ hN2 (Or.inr ⟨rfl, by omega, by omega, fun j hj => hM j (by omega), Or.inr ⟨by omega, b62, rfl⟩⟩) (fun h9 => absurd h9 (by decide)) (by omega)
              · skip
                have b62 := (if10 eT).2 c62
                refine o_iconst (v := 1) dX9_readAll_65 rfl (by decide) ?_
                refine o_goto (tgt := 70) dX9_readAll_66 (by decide) ?_
                refine o_istore_n (L' := [(0, vC 94), (1, vI 0), (2, vI (nI (i + 1))), (3, vI 1)]) dX9_readAll_70 rfl rfl (by decide) (by rfl) (by rfl) ?_
                refine o_goto (tgt := 14) dX9_readAll_71 (by decide) ?_
                exact ihLP14 (i + 1) 1 _ _ hN2 (Or.inl ⟨rfl, by omega, rfl, fun j hj => if e9 : j < i then hM j e9 else (show j = i by omega) ▸ b62⟩) (fun _ => by omega) (by omega)
          · skip
            exact absurd (by decide) c44
        · skip
          exact absurd (by decide) c19
  exact LP14 7 0 1 _ _ (RAL.beg en hn) (Or.inl ⟨rfl, by omega, rfl, fun j hj => by omega⟩) (fun _ => by omega) (by omega)
def TYC (mA m : Mu) (c k i : Nat) : Prop := (∀ q, q ≠ k → m q = mA q) ∧ (∀ j, j < i → ∀ t, t < c → m k (c * j + t) = mA 100 (c * j + t)) ∧ (∀ j, c * i ≤ j → m k j = mA k j)
theorem TYC.go {mA m m2 : Mu} {c k i : Nat} {V : Vc} (hk : k ≠ 100) (h : TYC mA m c k i) (h2 : PT m m2 k (c * i) c V) (hV : ∀ t, t < c → V t = m 100 (c * i + t)) : TYC mA m2 c k (i + 1) := by
  obtain ⟨a1, a2, a3⟩ := h
  obtain ⟨b1, b2, b3⟩ := h2
  refine ⟨fun q hq => (b1 q hq).trans (a1 q hq), fun j hj t ht => ?_, fun j hj => ?_⟩
  · by_cases q : j = i
    · subst q
      rw [b3 t ht, hV t ht, a1 100 hk.symm]
    · have hj2 : c * (j + 1) ≤ c * i := Nat.mul_le_mul_left c (by omega)
      rw [Nat.mul_add, Nat.mul_one] at hj2
      rw [b2 (c * j + t) (by omega)]
      exact a2 j (by omega) t ht
  · rw [Nat.mul_add, Nat.mul_one] at hj
    rw [b2 j (by omega)]
    exact a3 j (by omega)
/-- toy and pulls -/
def TYS (mu m : Mu) (n k fld c M : Nat) (cl : PSt → PSt) (V : PSt → Vc) (r : Int32) : Prop := ∃ N E, RdN cl (mu 99) n M N E ∧ r = fnR (mu 99) n (nI N) E ∧ m 94 8 = 0 ∧ (∀ q, q ≠ 94 → q ≠ 100 → q ≠ k → m q = mu q) ∧ (∀ j, j ≠ 8 → j ≠ 9 → j ≠ 10 → j ≠ fld → m 94 j = mu 94 j) ∧ ((E.2 = true ∧ nx (mu 99) n E.1 = -1 ∧ m 94 fld = nI N ∧ ∀ j, j < N → ∀ t, t < c → m k (c * j + t) = V (SP cl (mu 99) n j) t) ∨ (¬ (E.2 = true ∧ nx (mu 99) n E.1 = -1) ∧ m 94 fld = mu 94 fld ∧ m k = mu k))
theorem TYS.no {mu mA m : Mu} {n k fld c M : Nat} {cl : PSt → PSt} {V : PSt → Vc} {r : Int32} (hn : n ≤ 60) (hM : M ≤ 6) (hk : k ≠ 94 ∧ k ≠ 100) (hf : fld ≠ 8 ∧ fld ≠ 9 ∧ fld ≠ 10) (h : RDR mu mA n c M cl V r) (hr : r ≤ 0) (h2 : TYC (upF mA 94 fld (mA 94 fld)) m c k 0) : TYS mu m n k fld c M cl V r := by
  obtain ⟨N, E, h1, hE, h3, h4, h5, h6, h7⟩ := h
  subst h3
  obtain ⟨c1, c2, c3⟩ := h2
  have e94 : m 94 = mA 94 := by rw [c1 94 hk.1.symm]; exact upF_selfR
  exact ⟨N, E, h1, rfl, by rw [e94]; exact h4, fun q q1 q2 q3 => by rw [c1 q q3, upF_k q1]; exact h5 q q1 q2, fun j j1 j2 j3 _ => by rw [e94]; exact h6 j j1 j2 j3, Or.inr ⟨(fn_pos hn hE h1.1 (Nat.le_trans h1.2.1 hM)).mp hr, by rw [e94]; exact h6 fld hf.1 hf.2.1 hf.2.2, by funext j; rw [c3 j (by omega), upF_k hk.1]; rw [h5 k hk.1 hk.2]⟩⟩
theorem RDR.pos {mu mA : Mu} {n c M : Nat} {cl : PSt → PSt} {V : PSt → Vc} {r : Int32} (hn : n ≤ 60) (hM : M ≤ 6) (h : RDR mu mA n c M cl V r) (hr : ¬ r ≤ 0) : ∃ N, N ≤ M ∧ r = nI N := by
  obtain ⟨N, E, h1, hE, h3, h4, h5, h6, h7⟩ := h
  subst h3
  have hq := Decidable.not_not.mp (fun h => hr ((fn_pos hn hE h1.1 (Nat.le_trans h1.2.1 hM)).mpr h))
  exact ⟨N, h1.2.1, by unfold fnR; rw [if_pos hq.1, if_pos hq.2]⟩
theorem TYS.yes {mu mA m : Mu} {n k fld c M N' : Nat} {cl : PSt → PSt} {V : PSt → Vc} {r : Int32} (hn : n ≤ 60) (hM : M ≤ 6) (hk : k ≠ 94 ∧ k ≠ 100) (hf : fld ≠ 8 ∧ fld ≠ 9 ∧ fld ≠ 10) (h : RDR mu mA n c M cl V r) (hr : ¬ r ≤ 0) (hN : N' ≤ M) (eN : r = nI N') (h2 : TYC (upF mA 94 fld r) m c k N') : TYS mu m n k fld c M cl V r := by
  obtain ⟨N, E, h1, hE, h3, h4, h5, h6, h7⟩ := h
  have hq := Decidable.not_not.mp (fun h => hr (by rw [h3]; exact (fn_pos hn hE h1.1 (Nat.le_trans h1.2.1 hM)).mpr h))
  have e1 : r = nI N := by rw [h3]; unfold fnR; rw [if_pos hq.1, if_pos hq.2]
  have e2 : N = N' := (nI_eq (by have := h1.2.1; omega) (by omega)).mp (e1.symm.trans eN)
  subst e2
  obtain ⟨c1, c2, c3⟩ := h2
  have e94 : m 94 = upF mA 94 fld r 94 := c1 94 hk.1.symm
  refine ⟨N, E, h1, h3, by rw [e94, upF_i hf.1.symm]; exact h4, fun q q1 q2 q3 => by rw [c1 q q3, upF_k q1]; exact h5 q q1 q2, fun j j1 j2 j3 j4 => by rw [e94, upF_i j4]; exact h6 j j1 j2 j3, Or.inl ⟨hq.1, hq.2, by rw [e94, upF_s]; exact e1, fun j hj t ht => ?_⟩⟩
  rw [c2 j hj t ht, upF_k (by decide)]
  exact h7 hq.1 j hj t ht
theorem toyV5 (i : Nat) (m : Mu) (hi : i < 4) : ∀ t, t < 5 → (fun j => if j = 0 then m 100 (5 * nI i).toNatClampNeg else if j = 1 then m 100 (5 * nI i + 1).toNatClampNeg else if j = 2 then m 100 (5 * nI i + 2).toNatClampNeg else if j = 3 then m 100 (5 * nI i + 3).toNatClampNeg else m 100 (5 * nI i + 4).toNatClampNeg : Vc) t = m 100 (5 * i + t)
  | 0, _ => congrArg (m 100) (ixm (a := 5) (by omega))
  | 1, _ => congrArg (m 100) (ixl (a := 5) (t := 1) (by omega))
  | 2, _ => congrArg (m 100) (ixl (a := 5) (t := 2) (by omega))
  | 3, _ => congrArg (m 100) (ixl (a := 5) (t := 3) (by omega))
  | 4, _ => congrArg (m 100) (ixl (a := 5) (t := 4) (by omega))
  | t + 5, h => absurd h (by omega)
theorem toyV3 (i : Nat) (m : Mu) (hi : i < 6) : ∀ t, t < 3 → (fun j => if j = 0 then m 100 (3 * nI i).toNatClampNeg else if j = 1 then m 100 (3 * nI i + 1).toNatClampNeg else m 100 (3 * nI i + 2).toNatClampNeg : Vc) t = m 100 (3 * i + t)
  | 0, _ => congrArg (m 100) (ixm (a := 3) (by omega))
  | 1, _ => congrArg (m 100) (ixl (a := 3) (t := 1) (by omega))
  | 2, _ => congrArg (m 100) (ixl (a := 3) (t := 2) (by omega))
  | t + 3, h => absurd h (by omega)
set_option maxHeartbeats 4000000 in
set_option maxRecDepth 100000 in
theorem c_X9_toy (mu : Mu) (n : Nat) (en : mu 94 8 = nI n) (hn : n ≤ 60) (hT : ∀ i, i < n → ¬ mu 99 i = 0 ∧ ¬ mu 99 i = -1) : Con yX9_toy cX9_toy 3 (some .int) 5 [vC 94] mu (fun r mu2 => TYS mu mu2 n 96 1 5 4 (pCup (mu 99) n) (cupV (mu 99) n) r) := by
  refine con_of (own := RX9) (by decide) rfl (Nat.le_of_ble_eq_true rfl) (fun X g hq => ?_)
  show WA X g RX9 3 cX9_toy 0 [(0, vC 94)] [] mu
  refine o_aload_n dX9_toy_0 rfl rfl (by rfl) ?_
  refine o_iconst (v := 1) dX9_toy_1 rfl (by decide) ?_
  refine o_callV cs_X9_readAll cv_X9_153 (c_X9_readAll1 mu n en hn hT) hq.2.2.2 (Nat.le_of_ble_eq_true rfl) dX9_toy_2 rfl (by decide) (by rfl) (by rfl) (by rfl) rfl rfl (Nat.le_of_ble_eq_true rfl) (fun rA mA hA => ?_)
  refine o_istore_n (L' := [(0, vC 94), (1, vI rA)]) dX9_toy_5 rfl rfl (by decide) (by rfl) (by rfl) ?_
  refine o_aload_n dX9_toy_6 rfl rfl (by rfl) ?_
  refine o_iload_n dX9_toy_7 rfl rfl (by rfl) ?_
  refine o_if_le (tgt := 15) dX9_toy_8 (by decide) rfl (fun (c8 : rA ≤ 0) => ?_) (fun (c8 : ¬ rA ≤ 0) => ?_)
  · skip
    obtain ⟨Np, hNp⟩ : ∃ N9 : Nat, N9 = 0 := ⟨0, rfl⟩
    have hNM : Np ≤ 4 := by omega
    have hcmp : ∀ i : Nat, i ≤ Np → (rA ≤ nI i ↔ Np ≤ i) := fun i hi => ⟨fun _ => by omega, fun _ => by rw [show i = 0 by omega]; exact c8⟩
    refine o_aload_n dX9_toy_15 rfl rfl (by rfl) ?_
    refine o_getI cl_X9_68 dX9_toy_16 rfl (by decide) (by rfl) (by rfl) ?_
    refine o_put cl_X9_68 cp_X9_1 dX9_toy_19 rfl (by decide) (by rfl) (by rfl) fitI ?_
    obtain ⟨mB, eB⟩ : ∃ m9 : Mu, m9 = upF mA 94 1 (mA 94 1) := ⟨_, rfl⟩
    rw [← eB]
    refine o_iconst (v := 0) dX9_toy_22 rfl (by decide) ?_
    refine o_istore_n (L' := [(0, vC 94), (1, vI rA), (2, vI 0)]) dX9_toy_23 rfl rfl (by decide) (by rfl) (by rfl) ?_
    have LP24 : ∀ (nLP24 : Nat) (i : Nat) (m : Mu) , (i ≤ Np) → (TYC mB m 5 96 i) → (Np < i + nLP24) → WA X g RX9 3 cX9_toy 24 [(0, vC 94), (1, vI rA), (2, vI (nI i))] [] m := by
      intro nLP24
      induction nLP24 with
      | zero =>
        intro i m hi hT2 hm
        exact absurd hm (by omega)
      | succ nLP24 ihLP24 =>
        intro i m hi hT2 hm
        refine o_iload_n dX9_toy_24 rfl rfl (by rfl) ?_
        refine o_iload_n dX9_toy_25 rfl rfl (by rfl) ?_
        refine o_icmp_ge (tgt := 88) dX9_toy_26 (by decide) rfl (fun (c26 : rA ≤ (nI i)) => ?_) (fun (c26 : ¬ rA ≤ (nI i)) => ?_)
        · skip
          have hi2 : i = Np := by have := (hcmp i hi).mp c26; omega
          rw [hi2] at hT2
          refine o_iload_n dX9_toy_88 rfl rfl (by rfl) ?_
          exact o_iret hq dX9_toy_89 (TYS.no hn (by decide) (by decide) (by decide) hA c8 (by rw [hNp, eB] at hT2; exact hT2))
        · skip
          have hi2 : i < Np := by by_cases h9 : Np ≤ i; exact absurd ((hcmp i hi).mpr h9) c26; omega
          refine o_aload_n dX9_toy_29 rfl rfl (by rfl) ?_
          refine o_iload_n dX9_toy_30 rfl rfl (by rfl) ?_
          refine o_aload_n dX9_toy_31 rfl rfl (by rfl) ?_
          refine o_getC (q := 100) cl_X9_25 dX9_toy_32 rfl (by decide) (by rfl) (by rfl) ?_
          refine o_iconst (v := 5) dX9_toy_35 rfl (by decide) ?_
          refine o_iload_n dX9_toy_36 rfl rfl (by rfl) ?_
          refine o_imul dX9_toy_37 rfl ?_
          refine o_iald dX9_toy_38 rfl (by decide) (by rfl) (by rfl) (ixc (a := 5) (by omega) (by decide)) ?_
          refine o_aload_n dX9_toy_39 rfl rfl (by rfl) ?_
          refine o_getC (q := 100) cl_X9_25 dX9_toy_40 rfl (by decide) (by rfl) (by rfl) ?_
          refine o_iconst (v := 5) dX9_toy_43 rfl (by decide) ?_
          refine o_iload_n dX9_toy_44 rfl rfl (by rfl) ?_
          refine o_imul dX9_toy_45 rfl ?_
          refine o_iconst (v := 1) dX9_toy_46 rfl (by decide) ?_
          refine o_iadd dX9_toy_47 rfl ?_
          refine o_iald dX9_toy_48 rfl (by decide) (by rfl) (by rfl) (ixb (a := 5) (t := 1) (by omega) (by decide)) ?_
          refine o_aload_n dX9_toy_49 rfl rfl (by rfl) ?_
          refine o_getC (q := 100) cl_X9_25 dX9_toy_50 rfl (by decide) (by rfl) (by rfl) ?_
          refine o_iconst (v := 5) dX9_toy_53 rfl (by decide) ?_
          refine o_iload_n dX9_toy_54 rfl rfl (by rfl) ?_
          refine o_imul dX9_toy_55 rfl ?_
          refine o_iconst (v := 2) dX9_toy_56 rfl (by decide) ?_
          refine o_iadd dX9_toy_57 rfl ?_
          refine o_iald dX9_toy_58 rfl (by decide) (by rfl) (by rfl) (ixb (a := 5) (t := 2) (by omega) (by decide)) ?_
          refine o_aload_n dX9_toy_59 rfl rfl (by rfl) ?_
          refine o_getC (q := 100) cl_X9_25 dX9_toy_60 rfl (by decide) (by rfl) (by rfl) ?_
          refine o_iconst (v := 5) dX9_toy_63 rfl (by decide) ?_
          refine o_iload_n dX9_toy_64 rfl rfl (by rfl) ?_
          refine o_imul dX9_toy_65 rfl ?_
          refine o_iconst (v := 3) dX9_toy_66 rfl (by decide) ?_
          refine o_iadd dX9_toy_67 rfl ?_
          refine o_iald dX9_toy_68 rfl (by decide) (by rfl) (by rfl) (ixb (a := 5) (t := 3) (by omega) (by decide)) ?_
          refine o_aload_n dX9_toy_69 rfl rfl (by rfl) ?_
          refine o_getC (q := 100) cl_X9_25 dX9_toy_70 rfl (by decide) (by rfl) (by rfl) ?_
          refine o_iconst (v := 5) dX9_toy_73 rfl (by decide) ?_
          refine o_iload_n dX9_toy_74 rfl rfl (by rfl) ?_
          refine o_imul dX9_toy_75 rfl ?_
          refine o_iconst (v := 4) dX9_toy_76 rfl (by decide) ?_
          refine o_iadd dX9_toy_77 rfl ?_
          refine o_iald dX9_toy_78 rfl (by decide) (by rfl) (by rfl) (ixb (a := 5) (t := 4) (by omega) (by decide)) ?_
          refine o_callVV cs_X9_cupIs cv_X9_91 (c_X9_cupIs m i (by omega) (m 100 (5 * nI i).toNatClampNeg) (m 100 (5 * nI i + 1).toNatClampNeg) (m 100 (5 * nI i + 2).toNatClampNeg) (m 100 (5 * nI i + 3).toNatClampNeg) (m 100 (5 * nI i + 4).toNatClampNeg)) hq.2.2.2 (Nat.le_of_ble_eq_true rfl) dX9_toy_79 rfl (by decide) (by rfl) (by rfl) (by rfl) rfl rfl (Nat.le_of_ble_eq_true rfl) (fun mI hI => ?_)
          have hT3 : TYC _ mI 5 96 (i + 1) := hT2.go (by decide) hI (toyV5 i m (by omega))
          refine o_iinc (v := nI (i + 1)) (L' := [(0, vC 94), (1, vI rA), (2, vI (nI (i + 1)))]) dX9_toy_82 rfl (by rfl) (by exact nI_1 i) (by decide) (by rfl) (by rfl) ?_
          refine o_goto (tgt := 24) dX9_toy_85 (by decide) ?_
          exact ihLP24 (i + 1) _ (by omega) hT3 (by omega)
    exact LP24 (Np + 1) 0 _ (by omega) ⟨fun _ _ => rfl, fun j hj => by omega, fun _ _ => rfl⟩ (by omega)
  · skip
    obtain ⟨Np, hNM, hNp⟩ := hA.pos hn (by decide) c8
    have hcmp : ∀ i : Nat, i ≤ Np → (rA ≤ nI i ↔ Np ≤ i) := fun i hi => by rw [hNp]; exact nI_leJ (by omega) (by omega)
    refine o_iload_n dX9_toy_11 rfl rfl (by rfl) ?_
    refine o_goto (tgt := 19) dX9_toy_12 (by decide) ?_
    refine o_put cl_X9_68 cp_X9_1 dX9_toy_19 rfl (by decide) (by rfl) (by rfl) fitI ?_
    obtain ⟨mB, eB⟩ : ∃ m9 : Mu, m9 = upF mA 94 1 rA := ⟨_, rfl⟩
    rw [← eB]
    refine o_iconst (v := 0) dX9_toy_22 rfl (by decide) ?_
    refine o_istore_n (L' := [(0, vC 94), (1, vI rA), (2, vI 0)]) dX9_toy_23 rfl rfl (by decide) (by rfl) (by rfl) ?_
    have LP24 : ∀ (nLP24 : Nat) (i : Nat) (m : Mu) , (i ≤ Np) → (TYC mB m 5 96 i) → (Np < i + nLP24) → WA X g RX9 3 cX9_toy 24 [(0, vC 94), (1, vI rA), (2, vI (nI i))] [] m := by
      intro nLP24
      induction nLP24 with
      | zero =>
        intro i m hi hT2 hm
        exact absurd hm (by omega)
      | succ nLP24 ihLP24 =>
        intro i m hi hT2 hm
        refine o_iload_n dX9_toy_24 rfl rfl (by rfl) ?_
        refine o_iload_n dX9_toy_25 rfl rfl (by rfl) ?_
        refine o_icmp_ge (tgt := 88) dX9_toy_26 (by decide) rfl (fun (c26 : rA ≤ (nI i)) => ?_) (fun (c26 : ¬ rA ≤ (nI i)) => ?_)
        · skip
          have hi2 : i = Np := by have := (hcmp i hi).mp c26; omega
          rw [hi2] at hT2
          refine o_iload_n dX9_toy_88 rfl rfl (by rfl) ?_
          exact o_iret hq dX9_toy_89 (TYS.yes hn (by decide) (by decide) (by decide) hA c8 hNM hNp (by rw [eB] at hT2; exact hT2))
        · skip
          have hi2 : i < Np := by by_cases h9 : Np ≤ i; exact absurd ((hcmp i hi).mpr h9) c26; omega
          refine o_aload_n dX9_toy_29 rfl rfl (by rfl) ?_
          refine o_iload_n dX9_toy_30 rfl rfl (by rfl) ?_
          refine o_aload_n dX9_toy_31 rfl rfl (by rfl) ?_
          refine o_getC (q := 100) cl_X9_25 dX9_toy_32 rfl (by decide) (by rfl) (by rfl) ?_
          refine o_iconst (v := 5) dX9_toy_35 rfl (by decide) ?_
          refine o_iload_n dX9_toy_36 rfl rfl (by rfl) ?_
          refine o_imul dX9_toy_37 rfl ?_
          refine o_iald dX9_toy_38 rfl (by decide) (by rfl) (by rfl) (ixc (a := 5) (by omega) (by decide)) ?_
          refine o_aload_n dX9_toy_39 rfl rfl (by rfl) ?_
          refine o_getC (q := 100) cl_X9_25 dX9_toy_40 rfl (by decide) (by rfl) (by rfl) ?_
          refine o_iconst (v := 5) dX9_toy_43 rfl (by decide) ?_
          refine o_iload_n dX9_toy_44 rfl rfl (by rfl) ?_
          refine o_imul dX9_toy_45 rfl ?_
          refine o_iconst (v := 1) dX9_toy_46 rfl (by decide) ?_
          refine o_iadd dX9_toy_47 rfl ?_
          refine o_iald dX9_toy_48 rfl (by decide) (by rfl) (by rfl) (ixb (a := 5) (t := 1) (by omega) (by decide)) ?_
          refine o_aload_n dX9_toy_49 rfl rfl (by rfl) ?_
          refine o_getC (q := 100) cl_X9_25 dX9_toy_50 rfl (by decide) (by rfl) (by rfl) ?_
          refine o_iconst (v := 5) dX9_toy_53 rfl (by decide) ?_
          refine o_iload_n dX9_toy_54 rfl rfl (by rfl) ?_
          refine o_imul dX9_toy_55 rfl ?_
          refine o_iconst (v := 2) dX9_toy_56 rfl (by decide) ?_
          refine o_iadd dX9_toy_57 rfl ?_
          refine o_iald dX9_toy_58 rfl (by decide) (by rfl) (by rfl) (ixb (a := 5) (t := 2) (by omega) (by decide)) ?_
          refine o_aload_n dX9_toy_59 rfl rfl (by rfl) ?_
          refine o_getC (q := 100) cl_X9_25 dX9_toy_60 rfl (by decide) (by rfl) (by rfl) ?_
          refine o_iconst (v := 5) dX9_toy_63 rfl (by decide) ?_
          refine o_iload_n dX9_toy_64 rfl rfl (by rfl) ?_
          refine o_imul dX9_toy_65 rfl ?_
          refine o_iconst (v := 3) dX9_toy_66 rfl (by decide) ?_
          refine o_iadd dX9_toy_67 rfl ?_
          refine o_iald dX9_toy_68 rfl (by decide) (by rfl) (by rfl) (ixb (a := 5) (t := 3) (by omega) (by decide)) ?_
          refine o_aload_n dX9_toy_69 rfl rfl (by rfl) ?_
          refine o_getC (q := 100) cl_X9_25 dX9_toy_70 rfl (by decide) (by rfl) (by rfl) ?_
          refine o_iconst (v := 5) dX9_toy_73 rfl (by decide) ?_
          refine o_iload_n dX9_toy_74 rfl rfl (by rfl) ?_
          refine o_imul dX9_toy_75 rfl ?_
          refine o_iconst (v := 4) dX9_toy_76 rfl (by decide) ?_
          refine o_iadd dX9_toy_77 rfl ?_
          refine o_iald dX9_toy_78 rfl (by decide) (by rfl) (by rfl) (ixb (a := 5) (t := 4) (by omega) (by decide)) ?_
          refine o_callVV cs_X9_cupIs cv_X9_91 (c_X9_cupIs m i (by omega) (m 100 (5 * nI i).toNatClampNeg) (m 100 (5 * nI i + 1).toNatClampNeg) (m 100 (5 * nI i + 2).toNatClampNeg) (m 100 (5 * nI i + 3).toNatClampNeg) (m 100 (5 * nI i + 4).toNatClampNeg)) hq.2.2.2 (Nat.le_of_ble_eq_true rfl) dX9_toy_79 rfl (by decide) (by rfl) (by rfl) (by rfl) rfl rfl (Nat.le_of_ble_eq_true rfl) (fun mI hI => ?_)
          have hT3 : TYC _ mI 5 96 (i + 1) := hT2.go (by decide) hI (toyV5 i m (by omega))
          refine o_iinc (v := nI (i + 1)) (L' := [(0, vC 94), (1, vI rA), (2, vI (nI (i + 1)))]) dX9_toy_82 rfl (by rfl) (by exact nI_1 i) (by decide) (by rfl) (by rfl) ?_
          refine o_goto (tgt := 24) dX9_toy_85 (by decide) ?_
          exact ihLP24 (i + 1) _ (by omega) hT3 (by omega)
    exact LP24 (Np + 1) 0 _ (by omega) ⟨fun _ _ => rfl, fun j hj => by omega, fun _ _ => rfl⟩ (by omega)
set_option maxHeartbeats 4000000 in
set_option maxRecDepth 100000 in
theorem c_X9_pulls (mu : Mu) (n : Nat) (en : mu 94 8 = nI n) (hn : n ≤ 60) (hT : ∀ i, i < n → ¬ mu 99 i = 0 ∧ ¬ mu 99 i = -1) : Con yX9_pulls cX9_pulls 3 (some .int) 5 [vC 94] mu (fun r mu2 => TYS mu mu2 n 97 3 3 6 (pPart (mu 99) n) (partV (mu 99) n) r) := by
  refine con_of (own := RX9) (by decide) rfl (Nat.le_of_ble_eq_true rfl) (fun X g hq => ?_)
  show WA X g RX9 3 cX9_pulls 0 [(0, vC 94)] [] mu
  refine o_aload_n dX9_pulls_0 rfl rfl (by rfl) ?_
  refine o_iconst (v := 0) dX9_pulls_1 rfl (by decide) ?_
  refine o_callV cs_X9_readAll cv_X9_153 (c_X9_readAll0 mu n en hn hT) hq.2.2.2 (Nat.le_of_ble_eq_true rfl) dX9_pulls_2 rfl (by decide) (by rfl) (by rfl) (by rfl) rfl rfl (Nat.le_of_ble_eq_true rfl) (fun rA mA hA => ?_)
  refine o_istore_n (L' := [(0, vC 94), (1, vI rA)]) dX9_pulls_5 rfl rfl (by decide) (by rfl) (by rfl) ?_
  refine o_aload_n dX9_pulls_6 rfl rfl (by rfl) ?_
  refine o_iload_n dX9_pulls_7 rfl rfl (by rfl) ?_
  refine o_if_le (tgt := 15) dX9_pulls_8 (by decide) rfl (fun (c8 : rA ≤ 0) => ?_) (fun (c8 : ¬ rA ≤ 0) => ?_)
  · skip
    obtain ⟨Np, hNp⟩ : ∃ N9 : Nat, N9 = 0 := ⟨0, rfl⟩
    have hNM : Np ≤ 6 := by omega
    have hcmp : ∀ i : Nat, i ≤ Np → (rA ≤ nI i ↔ Np ≤ i) := fun i hi => ⟨fun _ => by omega, fun _ => by rw [show i = 0 by omega]; exact c8⟩
    refine o_aload_n dX9_pulls_15 rfl rfl (by rfl) ?_
    refine o_getI cl_X9_100 dX9_pulls_16 rfl (by decide) (by rfl) (by rfl) ?_
    refine o_put cl_X9_100 cp_X9_3 dX9_pulls_19 rfl (by decide) (by rfl) (by rfl) fitI ?_
    obtain ⟨mB, eB⟩ : ∃ m9 : Mu, m9 = upF mA 94 3 (mA 94 3) := ⟨_, rfl⟩
    rw [← eB]
    refine o_iconst (v := 0) dX9_pulls_22 rfl (by decide) ?_
    refine o_istore_n (L' := [(0, vC 94), (1, vI rA), (2, vI 0)]) dX9_pulls_23 rfl rfl (by decide) (by rfl) (by rfl) ?_
    have LP24 : ∀ (nLP24 : Nat) (i : Nat) (m : Mu) , (i ≤ Np) → (TYC mB m 3 97 i) → (Np < i + nLP24) → WA X g RX9 3 cX9_pulls 24 [(0, vC 94), (1, vI rA), (2, vI (nI i))] [] m := by
      intro nLP24
      induction nLP24 with
      | zero =>
        intro i m hi hT2 hm
        exact absurd hm (by omega)
      | succ nLP24 ihLP24 =>
        intro i m hi hT2 hm
        refine o_iload_n dX9_pulls_24 rfl rfl (by rfl) ?_
        refine o_iload_n dX9_pulls_25 rfl rfl (by rfl) ?_
        refine o_icmp_ge (tgt := 68) dX9_pulls_26 (by decide) rfl (fun (c26 : rA ≤ (nI i)) => ?_) (fun (c26 : ¬ rA ≤ (nI i)) => ?_)
        · skip
          have hi2 : i = Np := by have := (hcmp i hi).mp c26; omega
          rw [hi2] at hT2
          refine o_iload_n dX9_pulls_68 rfl rfl (by rfl) ?_
          exact o_iret hq dX9_pulls_69 (TYS.no hn (by decide) (by decide) (by decide) hA c8 (by rw [hNp, eB] at hT2; exact hT2))
        · skip
          have hi2 : i < Np := by by_cases h9 : Np ≤ i; exact absurd ((hcmp i hi).mpr h9) c26; omega
          refine o_aload_n dX9_pulls_29 rfl rfl (by rfl) ?_
          refine o_iload_n dX9_pulls_30 rfl rfl (by rfl) ?_
          refine o_aload_n dX9_pulls_31 rfl rfl (by rfl) ?_
          refine o_getC (q := 100) cl_X9_25 dX9_pulls_32 rfl (by decide) (by rfl) (by rfl) ?_
          refine o_iconst (v := 3) dX9_pulls_35 rfl (by decide) ?_
          refine o_iload_n dX9_pulls_36 rfl rfl (by rfl) ?_
          refine o_imul dX9_pulls_37 rfl ?_
          refine o_iald dX9_pulls_38 rfl (by decide) (by rfl) (by rfl) (ixc (a := 3) (by omega) (by decide)) ?_
          refine o_aload_n dX9_pulls_39 rfl rfl (by rfl) ?_
          refine o_getC (q := 100) cl_X9_25 dX9_pulls_40 rfl (by decide) (by rfl) (by rfl) ?_
          refine o_iconst (v := 3) dX9_pulls_43 rfl (by decide) ?_
          refine o_iload_n dX9_pulls_44 rfl rfl (by rfl) ?_
          refine o_imul dX9_pulls_45 rfl ?_
          refine o_iconst (v := 1) dX9_pulls_46 rfl (by decide) ?_
          refine o_iadd dX9_pulls_47 rfl ?_
          refine o_iald dX9_pulls_48 rfl (by decide) (by rfl) (by rfl) (ixb (a := 3) (t := 1) (by omega) (by decide)) ?_
          refine o_aload_n dX9_pulls_49 rfl rfl (by rfl) ?_
          refine o_getC (q := 100) cl_X9_25 dX9_pulls_50 rfl (by decide) (by rfl) (by rfl) ?_
          refine o_iconst (v := 3) dX9_pulls_53 rfl (by decide) ?_
          refine o_iload_n dX9_pulls_54 rfl rfl (by rfl) ?_
          refine o_imul dX9_pulls_55 rfl ?_
          refine o_iconst (v := 2) dX9_pulls_56 rfl (by decide) ?_
          refine o_iadd dX9_pulls_57 rfl ?_
          refine o_iald dX9_pulls_58 rfl (by decide) (by rfl) (by rfl) (ixb (a := 3) (t := 2) (by omega) (by decide)) ?_
          refine o_callVV cs_X9_partIs cv_X9_103 (c_X9_partIs m i (by omega) (m 100 (3 * nI i).toNatClampNeg) (m 100 (3 * nI i + 1).toNatClampNeg) (m 100 (3 * nI i + 2).toNatClampNeg)) hq.2.2.2 (Nat.le_of_ble_eq_true rfl) dX9_pulls_59 rfl (by decide) (by rfl) (by rfl) (by rfl) rfl rfl (Nat.le_of_ble_eq_true rfl) (fun mI hI => ?_)
          have hT3 : TYC _ mI 3 97 (i + 1) := hT2.go (by decide) hI (toyV3 i m (by omega))
          refine o_iinc (v := nI (i + 1)) (L' := [(0, vC 94), (1, vI rA), (2, vI (nI (i + 1)))]) dX9_pulls_62 rfl (by rfl) (by exact nI_1 i) (by decide) (by rfl) (by rfl) ?_
          refine o_goto (tgt := 24) dX9_pulls_65 (by decide) ?_
          exact ihLP24 (i + 1) _ (by omega) hT3 (by omega)
    exact LP24 (Np + 1) 0 _ (by omega) ⟨fun _ _ => rfl, fun j hj => by omega, fun _ _ => rfl⟩ (by omega)
  · skip
    obtain ⟨Np, hNM, hNp⟩ := hA.pos hn (by decide) c8
    have hcmp : ∀ i : Nat, i ≤ Np → (rA ≤ nI i ↔ Np ≤ i) := fun i hi => by rw [hNp]; exact nI_leJ (by omega) (by omega)
    refine o_iload_n dX9_pulls_11 rfl rfl (by rfl) ?_
    refine o_goto (tgt := 19) dX9_pulls_12 (by decide) ?_
    refine o_put cl_X9_100 cp_X9_3 dX9_pulls_19 rfl (by decide) (by rfl) (by rfl) fitI ?_
    obtain ⟨mB, eB⟩ : ∃ m9 : Mu, m9 = upF mA 94 3 rA := ⟨_, rfl⟩
    rw [← eB]
    refine o_iconst (v := 0) dX9_pulls_22 rfl (by decide) ?_
    refine o_istore_n (L' := [(0, vC 94), (1, vI rA), (2, vI 0)]) dX9_pulls_23 rfl rfl (by decide) (by rfl) (by rfl) ?_
    have LP24 : ∀ (nLP24 : Nat) (i : Nat) (m : Mu) , (i ≤ Np) → (TYC mB m 3 97 i) → (Np < i + nLP24) → WA X g RX9 3 cX9_pulls 24 [(0, vC 94), (1, vI rA), (2, vI (nI i))] [] m := by
      intro nLP24
      induction nLP24 with
      | zero =>
        intro i m hi hT2 hm
        exact absurd hm (by omega)
      | succ nLP24 ihLP24 =>
        intro i m hi hT2 hm
        refine o_iload_n dX9_pulls_24 rfl rfl (by rfl) ?_
        refine o_iload_n dX9_pulls_25 rfl rfl (by rfl) ?_
        refine o_icmp_ge (tgt := 68) dX9_pulls_26 (by decide) rfl (fun (c26 : rA ≤ (nI i)) => ?_) (fun (c26 : ¬ rA ≤ (nI i)) => ?_)
        · skip
          have hi2 : i = Np := by have := (hcmp i hi).mp c26; omega
          rw [hi2] at hT2
          refine o_iload_n dX9_pulls_68 rfl rfl (by rfl) ?_
          exact o_iret hq dX9_pulls_69 (TYS.yes hn (by decide) (by decide) (by decide) hA c8 hNM hNp (by rw [eB] at hT2; exact hT2))
        · skip
          have hi2 : i < Np := by by_cases h9 : Np ≤ i; exact absurd ((hcmp i hi).mpr h9) c26; omega
          refine o_aload_n dX9_pulls_29 rfl rfl (by rfl) ?_
          refine o_iload_n dX9_pulls_30 rfl rfl (by rfl) ?_
          refine o_aload_n dX9_pulls_31 rfl rfl (by rfl) ?_
          refine o_getC (q := 100) cl_X9_25 dX9_pulls_32 rfl (by decide) (by rfl) (by rfl) ?_
          refine o_iconst (v := 3) dX9_pulls_35 rfl (by decide) ?_
          refine o_iload_n dX9_pulls_36 rfl rfl (by rfl) ?_
          refine o_imul dX9_pulls_37 rfl ?_
          refine o_iald dX9_pulls_38 rfl (by decide) (by rfl) (by rfl) (ixc (a := 3) (by omega) (by decide)) ?_
          refine o_aload_n dX9_pulls_39 rfl rfl (by rfl) ?_
          refine o_getC (q := 100) cl_X9_25 dX9_pulls_40 rfl (by decide) (by rfl) (by rfl) ?_
          refine o_iconst (v := 3) dX9_pulls_43 rfl (by decide) ?_
          refine o_iload_n dX9_pulls_44 rfl rfl (by rfl) ?_
          refine o_imul dX9_pulls_45 rfl ?_
          refine o_iconst (v := 1) dX9_pulls_46 rfl (by decide) ?_
          refine o_iadd dX9_pulls_47 rfl ?_
          refine o_iald dX9_pulls_48 rfl (by decide) (by rfl) (by rfl) (ixb (a := 3) (t := 1) (by omega) (by decide)) ?_
          refine o_aload_n dX9_pulls_49 rfl rfl (by rfl) ?_
          refine o_getC (q := 100) cl_X9_25 dX9_pulls_50 rfl (by decide) (by rfl) (by rfl) ?_
          refine o_iconst (v := 3) dX9_pulls_53 rfl (by decide) ?_
          refine o_iload_n dX9_pulls_54 rfl rfl (by rfl) ?_
          refine o_imul dX9_pulls_55 rfl ?_
          refine o_iconst (v := 2) dX9_pulls_56 rfl (by decide) ?_
          refine o_iadd dX9_pulls_57 rfl ?_
          refine o_iald dX9_pulls_58 rfl (by decide) (by rfl) (by rfl) (ixb (a := 3) (t := 2) (by omega) (by decide)) ?_
          refine o_callVV cs_X9_partIs cv_X9_103 (c_X9_partIs m i (by omega) (m 100 (3 * nI i).toNatClampNeg) (m 100 (3 * nI i + 1).toNatClampNeg) (m 100 (3 * nI i + 2).toNatClampNeg)) hq.2.2.2 (Nat.le_of_ble_eq_true rfl) dX9_pulls_59 rfl (by decide) (by rfl) (by rfl) (by rfl) rfl rfl (Nat.le_of_ble_eq_true rfl) (fun mI hI => ?_)
          have hT3 : TYC _ mI 3 97 (i + 1) := hT2.go (by decide) hI (toyV3 i m (by omega))
          refine o_iinc (v := nI (i + 1)) (L' := [(0, vC 94), (1, vI rA), (2, vI (nI (i + 1)))]) dX9_pulls_62 rfl (by rfl) (by exact nI_1 i) (by decide) (by rfl) (by rfl) ?_
          refine o_goto (tgt := 24) dX9_pulls_65 (by decide) ?_
          exact ihLP24 (i + 1) _ (by omega) hT3 (by omega)
    exact LP24 (Np + 1) 0 _ (by omega) ⟨fun _ _ => rfl, fun j hj => by omega, fun _ _ => rfl⟩ (by omega)
