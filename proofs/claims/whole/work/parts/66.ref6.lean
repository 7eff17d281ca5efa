/-! ===== the reference: what a try tells ===== -/
def cn (x : Int32) : Int32 := if x = -1 then -4 else x
theorem cn_eq {x c : Int32} (h1 : ¬ c = -4) (h2 : ¬ c = -1) : cn x = c ↔ x = c := by
  unfold cn
  by_cases e : x = -1
  · rw [if_pos e]
    exact ⟨fun h => absurd h.symm h1, fun h => absurd (h.symm.trans e) h2⟩
  · rw [if_neg e]
def frR (mu m : Mu) : Prop := (∀ q, (q < 94 ∨ (94 < q ∧ q < 101) ∨ 106 < q) → m q = mu q) ∧ ∀ j, (j < 18 ∨ 30 < j) → m 94 j = mu 94 j
theorem frR.rf (mu : Mu) : frR mu mu := ⟨fun _ _ => rfl, fun _ _ => rfl⟩
theorem frR.tr {a b c : Mu} (h : frR a b) (h2 : frR b c) : frR a c := ⟨fun q hq => (h2.1 q hq).trans (h.1 q hq), fun j hj => (h2.2 j hj).trans (h.2 j hj)⟩
def TRR (mu m : Mu) (a : TA) : Prop := frR mu m ∧ (∀ q, 103 < q → m q = mu q) ∧ (∀ k, k < 100 → ∀ j, j < 9 → m 101 (9 * k + j) = tvA mu a (k + 1) j) ∧ m 94 18 = cn (tvA mu a 100 9) ∧ m 94 19 = (if tvA mu a 100 9 = -1 then -4 else tvA mu a 100 12 - 1) ∧ m 94 20 = tvA mu a 100 10 ∧ m 94 21 = tvA mu a 100 11 ∧ (∀ k, k < 100 → tvA mu a k 9 = -1 → m 102 k = tvA mu a (k + 1) 13 ∧ m 103 k = tvA mu a (k + 1) 14) ∧ ∃ s, trA mu a 100 s
theorem c_tries (mu : Mu) (a : TA) (nc np : Nat) (hA : TOKA mu a nc np) : ConV yX9_tries cX9_tries 5 2 [vC 94] mu (fun mu2 => TRR mu mu2 a) := by
  refine conV_wk (c_X9_tries mu a nc np hA) (fun m h => ?_)
  obtain ⟨⟨e, h1, ⟨s, h2, h3⟩, -, -, -, h4⟩, h5⟩ := h
  have ht : ∀ j, j < 15 → tvA mu a 100 j = s j := fun j hj => hA.tv h2 hj
  obtain ⟨⟨-, -, -, -, -, -, -, -, -, a10, a11⟩, hc⟩ := h3
  refine ⟨⟨fun q hq => h1.1 q (by omega) (by omega) (by omega) (by omega), h1.2⟩, fun q hq => h1.1 q (by omega) (by omega) (by omega) (by omega), h5, ?_, ?_, ?_, ?_, h4, s, h2⟩
  · rw [ht 9 (by decide)]
    rcases hc with ⟨c1, c2, -⟩ | ⟨i, c0, c1, c2, -⟩
    · rw [c2, c1]; rfl
    · rw [c2, c1]; exact (if_neg (nI_nem1 (by omega))).symm
  · rw [ht 9 (by decide), ht 12 (by decide)]
    rcases hc with ⟨c1, -, c3⟩ | ⟨i, c0, c1, -, c3⟩
    · rw [c3, if_pos c1]
    · rw [c3, if_neg (by rw [c1]; exact nI_nem1 (by omega))]
  · rw [ht 10 (by decide)]; exact a10.symm
  · rw [ht 11 (by decide)]; exact a11.symm
theorem toka_fr {mu m : Mu} {a : TA} {nc np : Nat} (hA : TOKA mu a nc np) (h : frR mu m) : TOKA m a nc np ∧ tv m = tv mu := by
  obtain ⟨a1, a2, a3, a4, a5, a6, a7, a8⟩ := hA
  have c : ∀ q, q < 53 → m q = mu q := fun q hq => h.1 q (by omega)
  refine ⟨⟨a1.cg (fun q _ b => c q (by omega)), a2.cg c (fun q b1 b2 => h.1 q (by omega)) (h.2 1 (by omega)) (h.2 3 (by omega)), a3, a4, a5, ?_, ?_, ?_⟩, tv_cg a1.t9 (fun q _ b => c q (by omega))⟩
  · rw [h.2 17 (by omega)]; exact a6
  · rw [h.2 15 (by omega)]; exact a7
  · rw [h.2 16 (by omega)]; exact a8
theorem toka_by {mu : Mu} {a : TA} {nc np : Nat} {u v : Int32} (hA : TOKA mu a nc np) (hu : rg u (-10) 10) (hv : rg v (-10) 10) : TOKA (upF (upF mu 97 1 u) 97 2 v) (a.1, u, v, a.2.2.2) nc np ∧ tv (upF (upF mu 97 1 u) 97 2 v) = tv mu := by
  obtain ⟨a1, a2, a3, a4, a5, a6, a7, a8⟩ := hA
  have c : ∀ q, q ≠ 97 → upF (upF mu 97 1 u) 97 2 v q = mu q := fun q hq => by rw [upF_k hq, upF_k hq]
  have d : ∀ j, j ≠ 1 → j ≠ 2 → upF (upF mu 97 1 u) 97 2 v 97 j = mu 97 j := fun j h1 h2 => by rw [upF_i h2, upF_i h1]
  refine ⟨⟨a1.cg (fun q _ b => c q (by omega)), ?_, a3, hu, hv, ?_, ?_, ?_⟩, tv_cg a1.t9 (fun q _ b => c q (by omega))⟩
  · obtain ⟨⟨b1, b2, b3⟩, ⟨c1, c2, c3, c4⟩, ⟨d1, d2, d3, d4, d5, d6⟩⟩ := a2
    refine ⟨⟨b1, b2, b3⟩, ⟨c1, c2, c3, fun i hi j hj => by rw [c 96 (by decide), c (5 + i) (by omega)]; exact c4 i hi j hj⟩, ⟨d1, d2, d3, fun i hi => by rw [d (3 * i) (by omega) (by omega), c (11 + i) (by omega)]; exact d4 i hi, fun _ => ⟨rfl, rfl⟩, fun i h1 h2 => by rw [d (3 * i + 1) (by omega) (by omega), d (3 * i + 2) (by omega) (by omega), c (11 + i) (by omega)]; exact d6 i h1 h2⟩⟩
  · rw [c 94 (by decide)]; exact a6
  · rw [c 94 (by decide)]; exact a7
  · rw [c 94 (by decide)]; exact a8
noncomputable abbrev tvB (mu : Mu) (a : TA) (u v : Int32) (n j : Nat) : Int32 := tv mu a.1 u v a.2.2.2.1 a.2.2.2.2.1 a.2.2.2.2.2 n j
def EBY (mu m : Mu) (a : TA) (u v r : Int32) : Prop := frR mu m ∧ (∀ q, 103 < q → m q = mu q) ∧ r = cn (tvB mu a u v 100 9) ∧ ∀ k, k < 100 → ∀ j, j < 9 → m 101 (9 * k + j) = tvB mu a u v (k + 1) j
theorem EBY.mk {mu m m2 : Mu} {a : TA} {nc np : Nat} {u v : Int32} (hA : TOKA mu a nc np) (hu : rg u (-10) 10) (hv : rg v (-10) 10) (h : TRR (upF (upF mu 97 1 u) 97 2 v) m (a.1, u, v, a.2.2.2)) (h2 : m2 = upF (upF m 97 1 (mu 97 1)) 97 2 (mu 97 2)) : EBY mu m2 a u v (m 94 18) := by
  have et := (toka_by hA hu hv).2
  obtain ⟨h0, h1, h3, h4, -⟩ := h
  subst h2
  have e97 : upF (upF m 97 1 (mu 97 1)) 97 2 (mu 97 2) 97 = mu 97 := by
    funext j
    by_cases j2 : j = 2
    · rw [j2, upF_s]
    · rw [upF_i j2]
      by_cases j1 : j = 1
      · rw [j1, upF_s]
      · rw [upF_i j1, h0.1 97 (by omega), upF_i j2, upF_i j1]
  refine ⟨⟨fun q hq => ?_, fun j hj => ?_⟩, fun q hq => ?_, ?_, fun k hk j hj => ?_⟩
  · by_cases e : q = 97
    · rw [e]; exact e97
    · rw [upF_k e, upF_k e, h0.1 q hq, upF_k e, upF_k e]
  · rw [upF_k (by decide), upF_k (by decide), h0.2 j hj, upF_k (by decide), upF_k (by decide)]
  · rw [upF_k (by omega), upF_k (by omega), h1 q hq, upF_k (by omega), upF_k (by omega)]
  · rw [h4]; show cn (tv _ _ _ _ _ _ _ _ _) = _; rw [et]
  · rw [upF_k (by decide), upF_k (by decide), h3 k hk j hj]; show tv _ _ _ _ _ _ _ _ _ = _; rw [et]
set_option maxHeartbeats 4000000 in
set_option maxRecDepth 100000 in
theorem c_X9_endBy (mu : Mu) (a : TA) (nc np : Nat) (hA : TOKA mu a nc np) (u v : Int32) (hu : rg u (-10) 10) (hv : rg v (-10) 10) : Con yX9_endBy cX9_endBy 5 (some .int) 3 [vC 94, vI u, vI v] mu (fun r mu2 => EBY mu mu2 a u v r) := by
  refine con_of (own := RX9) (by decide) rfl (Nat.le_of_ble_eq_true rfl) (fun X g hq => ?_)
  show WA X g RX9 5 cX9_endBy 0 [(0, vC 94), (1, vI u), (2, vI v)] [] mu
  refine o_aload_n dX9_endBy_0 rfl rfl (by rfl) ?_
  refine o_getC (q := 97) cl_X9_16 dX9_endBy_1 rfl (by decide) (by rfl) (by rfl) ?_
  refine o_iconst (v := 1) dX9_endBy_4 rfl (by decide) ?_
  refine o_iald dX9_endBy_5 rfl (by decide) (by rfl) (by rfl) (vp_in_nI (n := 1) (by decide) (by decide)) ?_
  refine o_istore_n (L' := [(0, vC 94), (1, vI u), (2, vI v), (3, vI (mu 97 1))]) dX9_endBy_6 rfl rfl (by decide) (by rfl) (by rfl) ?_
  refine o_aload_n dX9_endBy_7 rfl rfl (by rfl) ?_
  refine o_getC (q := 97) cl_X9_16 dX9_endBy_8 rfl (by decide) (by rfl) (by rfl) ?_
  refine o_iconst (v := 2) dX9_endBy_11 rfl (by decide) ?_
  refine o_iald dX9_endBy_12 rfl (by decide) (by rfl) (by rfl) (vp_in_nI (n := 2) (by decide) (by decide)) ?_
  refine o_istore (L' := [(0, vC 94), (1, vI u), (2, vI v), (3, vI (mu 97 1)), (4, vI (mu 97 2))]) dX9_endBy_13 rfl (by decide) (by rfl) (by rfl) ?_
  refine o_aload_n dX9_endBy_15 rfl rfl (by rfl) ?_
  refine o_getC (q := 97) cl_X9_16 dX9_endBy_16 rfl (by decide) (by rfl) (by rfl) ?_
  refine o_iconst (v := 1) dX9_endBy_19 rfl (by decide) ?_
  refine o_iload_n dX9_endBy_20 rfl rfl (by rfl) ?_
  refine o_iast dX9_endBy_21 rfl (by decide) (by rfl) (by rfl) (vp_in_nI (n := 1) (by decide) (by decide)) ?_
  refine o_aload_n dX9_endBy_22 rfl rfl (by rfl) ?_
  refine o_getC (q := 97) cl_X9_16 dX9_endBy_23 rfl (by decide) (by rfl) (by rfl) ?_
  refine o_iconst (v := 2) dX9_endBy_26 rfl (by decide) ?_
  refine o_iload_n dX9_endBy_27 rfl rfl (by rfl) ?_
  refine o_iast dX9_endBy_28 rfl (by decide) (by rfl) (by rfl) (vp_in_nI (n := 2) (by decide) (by decide)) ?_
  refine o_aload_n dX9_endBy_29 rfl rfl (by rfl) ?_
  refine o_callVV cs_X9_tries cv_X9_222 (c_tries _ _ nc np (toka_by hA hu hv).1) hq.2.2.2 (Nat.le_of_ble_eq_true rfl) dX9_endBy_30 rfl (by decide) (by rfl) (by rfl) (by rfl) rfl rfl (Nat.le_of_ble_eq_true rfl) (fun mT hT => ?_)
  refine o_aload_n dX9_endBy_33 rfl rfl (by rfl) ?_
  refine o_getC (q := 97) cl_X9_16 dX9_endBy_34 rfl (by decide) (by rfl) (by rfl) ?_
  refine o_iconst (v := 1) dX9_endBy_37 rfl (by decide) ?_
  refine o_iload_n dX9_endBy_38 rfl rfl (by rfl) ?_
  refine o_iast dX9_endBy_39 rfl (by decide) (by rfl) (by rfl) (vp_in_nI (n := 1) (by decide) (by decide)) ?_
  refine o_aload_n dX9_endBy_40 rfl rfl (by rfl) ?_
  refine o_getC (q := 97) cl_X9_16 dX9_endBy_41 rfl (by decide) (by rfl) (by rfl) ?_
  refine o_iconst (v := 2) dX9_endBy_44 rfl (by decide) ?_
  refine o_iload dX9_endBy_45 rfl (by rfl) ?_
  refine o_iast dX9_endBy_47 rfl (by decide) (by rfl) (by rfl) (vp_in_nI (n := 2) (by decide) (by decide)) ?_
  refine o_aload_n dX9_endBy_48 rfl rfl (by rfl) ?_
  refine o_getI cl_X9_200 dX9_endBy_49 rfl (by decide) (by rfl) (by rfl) ?_
  exact o_iret hq dX9_endBy_52 (EBY.mk (m := mT) hA hu hv hT rfl)
theorem gU_r : ∀ k, k < 90 → nI k / 10 - 4 = gU k := by decide +kernel
theorem gV_r : ∀ k, k < 90 → nI k - nI k / 10 * 10 = gV k := by decide +kernel
noncomputable def eR (mu : Mu) (a : TA) (k : Nat) : Int32 := cn (tvB mu a (gU k) (gV k) 100 9)
def GRD (mu m : Mu) (a : TA) (n : Nat) : Prop := frR mu m ∧ (∀ q, 104 < q → m q = mu q) ∧ ∀ k, k < n → m 104 k = eR mu a k
theorem GRD.go {mu m m2 : Mu} {a : TA} {nc np n : Nat} {r : Int32} (hA : TOKA mu a nc np) (h : GRD mu m a n) (h2 : EBY m m2 a (gU n) (gV n) r) : GRD mu (upF m2 104 n r) a (n + 1) := by
  obtain ⟨h0, h1, h3⟩ := h
  obtain ⟨g0, g1, g2, -⟩ := h2
  have et := (toka_fr hA h0).2
  refine ⟨⟨fun q hq => ?_, fun j hj => ?_⟩, fun q hq => ?_, fun k hk => ?_⟩
  · rw [upF_k (by omega), g0.1 q hq, h0.1 q hq]
  · rw [upF_k (by decide), g0.2 j hj, h0.2 j hj]
  · rw [upF_k (by omega), g1 q (by omega), h1 q hq]
  · by_cases e : k = n
    · rw [e, upF_s, g2]; unfold eR; show cn (tv m a.1 (gU n) (gV n) a.2.2.2.1 a.2.2.2.2.1 a.2.2.2.2.2 100 9) = _; rw [et]
    · rw [upF_i e, g1 104 (by decide)]; exact h3 k (by omega)
set_option maxHeartbeats 4000000 in
set_option maxRecDepth 100000 in
theorem c_X9_grid (mu : Mu) (a : TA) (nc np : Nat) (hA : TOKA mu a nc np) : ConV yX9_grid cX9_grid 2 4 [vC 94] mu (fun mu2 => GRD mu mu2 a 90) := by
  refine conV_of (own := RX9) (by decide) rfl (Nat.le_of_ble_eq_true rfl) (fun X g hq => ?_)
  show WA X g RX9 2 cX9_grid 0 [(0, vC 94)] [] mu
  refine o_iconst (v := 0) dX9_grid_0 rfl (by decide) ?_
  refine o_istore_n (L' := [(0, vC 94), (1, vI 0)]) dX9_grid_1 rfl rfl (by decide) (by rfl) (by rfl) ?_
  have LP2 : ∀ (nLP2 : Nat) (k : Nat) (m : Mu) , (k ≤ 90) → (GRD mu m a k) → (90 < k + nLP2) → WA X g RX9 2 cX9_grid 2 [(0, vC 94), (1, vI (nI k))] [] m := by
    intro nLP2
    induction nLP2 with
    | zero =>
      intro k m hk hG hm
      exact absurd hm (by omega)
    | succ nLP2 ihLP2 =>
      intro k m hk hG hm
      refine o_iload_n dX9_grid_2 rfl rfl (by rfl) ?_
      refine o_bipush (v := 90) dX9_grid_3 rfl (by decide) ?_
      refine o_icmp_ge (tgt := 34) dX9_grid_5 (by decide) rfl (fun (c5 : 90 ≤ (nI k)) => ?_) (fun (c5 : ¬ 90 ≤ (nI k)) => ?_)
      · skip
        have hk2 := nI_dec2 (b := 90) c5 (by omega) (by decide)
        have e2 : k = 90 := by omega
        subst e2
        exact o_vret hq dX9_grid_34 hG
      · skip
        have hk2 := nI_dec (b := 90) c5 (by omega) (by decide)
        refine o_aload_n dX9_grid_8 rfl rfl (by rfl) ?_
        refine o_getC (q := 104) cl_X9_41 dX9_grid_9 rfl (by decide) (by rfl) (by rfl) ?_
        refine o_iload_n dX9_grid_12 rfl rfl (by rfl) ?_
        refine o_aload_n dX9_grid_13 rfl rfl (by rfl) ?_
        refine o_iload_n dX9_grid_14 rfl rfl (by rfl) ?_
        refine o_bipush (v := 10) dX9_grid_15 rfl (by decide) ?_
        refine o_idiv dX9_grid_17 rfl (by decide) ?_
        refine o_iconst (v := 4) dX9_grid_18 rfl (by decide) ?_
        refine o_isub dX9_grid_19 rfl ?_
        refine o_iload_n dX9_grid_20 rfl rfl (by rfl) ?_
        refine o_bipush (v := 10) dX9_grid_21 rfl (by decide) ?_
        refine o_irem dX9_grid_23 rfl (by decide) ?_
        rw [gU_r k hk2, gV_r k hk2]
        refine o_callV cs_X9_endBy cv_X9_227 (c_X9_endBy m a nc np (toka_fr hA hG.1).1 (gU k) (gV k) (gU_rg hk2) gV_rg) hq.2.2.2 (Nat.le_of_ble_eq_true rfl) dX9_grid_24 rfl (by decide) (by rfl) (by rfl) (by rfl) rfl rfl (Nat.le_of_ble_eq_true rfl) (fun rE mE hE => ?_)
        refine o_iast dX9_grid_27 rfl (by decide) (by rfl) (by rfl) (vp_in_nI hk2 (by decide)) ?_
        refine o_iinc (v := nI (k + 1)) (L' := [(0, vC 94), (1, vI (nI (k + 1)))]) dX9_grid_28 rfl (by rfl) (by exact nI_1 k) (by decide) (by rfl) (by rfl) ?_
        refine o_goto (tgt := 2) dX9_grid_31 (by decide) ?_
        exact ihLP2 (k + 1) _ (by omega) (by rw [nI_clamp (by omega)]; exact hG.go hA hE) (by omega)
  exact LP2 91 0 _ (by omega) ⟨frR.rf mu, fun _ _ => rfl, fun k h => by omega⟩ (by omega)
noncomputable abbrev aC (mu : Mu) (cord : Int32) : TA := (cord, tget mu 9 0 1, tget mu 9 0 2, 1, -1, 0)
theorem aC_cg {mu m : Mu} {cord : Int32} {nc np : Nat} (hA : TOKA mu (aC mu cord) nc np) (h : frR mu m) : aC m cord = aC mu cord := by
  unfold aC
  rw [tget_cg tab9 hA.1.t9 (fun q a b => h.1 q (by omega)), tget_cg tab9 hA.1.t9 (fun q a b => h.1 q (by omega))]
theorem od_w : ∀ k, k < 9 → (nI k / 3 = 1 ↔ k / 3 = 1) ∧ (nI k - nI k / 3 * 3 = 1 ↔ k % 3 = 1) := by decide +kernel
theorem od_d : ∀ k, k < 9 → nI k / 3 = nI (k / 3) ∧ nI k - nI k / 3 * 3 = nI (k % 3) := by decide +kernel
theorem add_sub_a (x y : Int32) : x + y - 1 = x + (y - 1) := by rw [Int32.sub_eq_add_neg, Int32.sub_eq_add_neg, Int32.add_assoc]
theorem TOKA.uv {mu : Mu} {a : TA} {nc np : Nat} (hA : TOKA mu a nc np) (hnp : 0 < np) : mu 97 1 = a.2.1 ∧ mu 97 2 = a.2.2.1 := hA.2.1.2.2.2.2.2.2.1 hnp
set_option maxHeartbeats 4000000 in
set_option maxRecDepth 100000 in
theorem c_X9_oddsOf (mu : Mu) (cord cup : Int32) (nc np : Nat) (hA : TOKA mu (aC mu cord) nc np) (hnp : 0 < np) (h4 : ¬ cup = -4) (h1 : ¬ cup = -1) : Con yX9_oddsOf cX9_oddsOf 5 (some .int) 4 [vC 94, vI cup] mu (fun r mu2 => frR mu mu2 ∧ r = odS mu cord cup 9) := by
  refine con_of (own := RX9) (by decide) rfl (Nat.le_of_ble_eq_true rfl) (fun X g hq => ?_)
  show WA X g RX9 5 cX9_oddsOf 0 [(0, vC 94), (1, vI cup)] [] mu
  refine o_iconst (v := 0) dX9_oddsOf_0 rfl (by decide) ?_
  refine o_istore_n (L' := [(0, vC 94), (1, vI cup), (2, vI 0)]) dX9_oddsOf_1 rfl rfl (by decide) (by rfl) (by rfl) ?_
  refine o_iconst (v := 0) dX9_oddsOf_2 rfl (by decide) ?_
  refine o_istore_n (L' := [(0, vC 94), (1, vI cup), (2, vI 0), (3, vI 0)]) dX9_oddsOf_3 rfl rfl (by decide) (by rfl) (by rfl) ?_
  have LP4 : ∀ (nLP4 : Nat) (k : Nat) (m : Mu) , (k ≤ 9) → (frR mu m) → (9 < k + nLP4) → WA X g RX9 5 cX9_oddsOf 4 [(0, vC 94), (1, vI cup), (2, vI (odS mu cord cup k)), (3, vI (nI k))] [] m := by
    intro nLP4
    induction nLP4 with
    | zero =>
      intro k m hk hF hm
      exact absurd hm (by omega)
    | succ nLP4 ihLP4 =>
      intro k m hk hF hm
      refine o_iload_n dX9_oddsOf_4 rfl rfl (by rfl) ?_
      refine o_bipush (v := 9) dX9_oddsOf_5 rfl (by decide) ?_
      refine o_icmp_ge (tgt := 84) dX9_oddsOf_7 (by decide) rfl (fun (c7 : 9 ≤ (nI k)) => ?_) (fun (c7 : ¬ 9 ≤ (nI k)) => ?_)
      · skip
        have hk2 := nI_dec2 (b := 9) c7 (by omega) (by decide)
        have e2 : k = 9 := by omega
        subst e2
        refine o_iload_n dX9_oddsOf_84 rfl rfl (by rfl) ?_
        exact o_iret hq dX9_oddsOf_85 ⟨hF, rfl⟩
      · skip
        have hk2 := nI_dec (b := 9) c7 (by omega) (by decide)
        refine o_iload_n dX9_oddsOf_10 rfl rfl (by rfl) ?_
        refine o_iconst (v := 3) dX9_oddsOf_11 rfl (by decide) ?_
        refine o_idiv dX9_oddsOf_12 rfl (by decide) ?_
        refine o_iconst (v := 1) dX9_oddsOf_13 rfl (by decide) ?_
        refine o_icmp_ne (tgt := 21) dX9_oddsOf_14 (by decide) rfl (fun (c14 : ¬ ((nI k) / 3) = 1) => ?_) (fun (c14 : ((nI k) / 3) = 1) => ?_)
        · skip
          refine o_iconst (v := 1) dX9_oddsOf_21 rfl (by decide) ?_
          refine o_iload_n dX9_oddsOf_22 rfl rfl (by rfl) ?_
          refine o_iconst (v := 3) dX9_oddsOf_23 rfl (by decide) ?_
          refine o_irem dX9_oddsOf_24 rfl (by decide) ?_
          refine o_iconst (v := 1) dX9_oddsOf_25 rfl (by decide) ?_
          refine o_icmp_ne (tgt := 33) dX9_oddsOf_26 (by decide) rfl (fun (c26 : ¬ ((nI k) - (nI k) / 3 * 3) = 1) => ?_) (fun (c26 : ((nI k) - (nI k) / 3 * 3) = 1) => ?_)
          · skip
            refine o_iconst (v := 1) dX9_oddsOf_33 rfl (by decide) ?_
            refine o_imul dX9_oddsOf_34 rfl ?_
            refine o_istore (L' := [(0, vC 94), (1, vI cup), (2, vI (odS mu cord cup k)), (3, vI (nI k)), (4, vI (1 * 1))]) dX9_oddsOf_35 rfl (by decide) (by rfl) (by rfl) ?_
            refine o_iload_n dX9_oddsOf_37 rfl rfl (by rfl) ?_
            refine o_aload_n dX9_oddsOf_38 rfl rfl (by rfl) ?_
            refine o_aload_n dX9_oddsOf_39 rfl rfl (by rfl) ?_
            refine o_getC (q := 97) cl_X9_16 dX9_oddsOf_40 rfl (by decide) (by rfl) (by rfl) ?_
            refine o_iconst (v := 1) dX9_oddsOf_43 rfl (by decide) ?_
            refine o_iald dX9_oddsOf_44 rfl (by decide) (by rfl) (by rfl) (vp_in_nI (n := 1) (by decide) (by decide)) ?_
            refine o_iload_n dX9_oddsOf_45 rfl rfl (by rfl) ?_
            refine o_iconst (v := 3) dX9_oddsOf_46 rfl (by decide) ?_
            refine o_idiv dX9_oddsOf_47 rfl (by decide) ?_
            refine o_iadd dX9_oddsOf_48 rfl ?_
            refine o_iconst (v := 1) dX9_oddsOf_49 rfl (by decide) ?_
            refine o_isub dX9_oddsOf_50 rfl ?_
            refine o_aload_n dX9_oddsOf_51 rfl rfl (by rfl) ?_
            refine o_getC (q := 97) cl_X9_16 dX9_oddsOf_52 rfl (by decide) (by rfl) (by rfl) ?_
            refine o_iconst (v := 2) dX9_oddsOf_55 rfl (by decide) ?_
            refine o_iald dX9_oddsOf_56 rfl (by decide) (by rfl) (by rfl) (vp_in_nI (n := 2) (by decide) (by decide)) ?_
            refine o_iload_n dX9_oddsOf_57 rfl rfl (by rfl) ?_
            refine o_iconst (v := 3) dX9_oddsOf_58 rfl (by decide) ?_
            refine o_irem dX9_oddsOf_59 rfl (by decide) ?_
            refine o_iadd dX9_oddsOf_60 rfl ?_
            refine o_iconst (v := 1) dX9_oddsOf_61 rfl (by decide) ?_
            refine o_isub dX9_oddsOf_62 rfl ?_
            have hA2 := toka_fr hA hF
            have huv := hA2.1.uv hnp
            have h97a : m 97 (Int32.toNatClampNeg 1) = tget mu 9 0 1 := huv.1
            have h97b : m 97 (Int32.toNatClampNeg 2) = tget mu 9 0 2 := huv.2
            rw [h97a, h97b, (od_d k hk2).2, (od_d k hk2).1, add_sub_a, add_sub_a]
            have hr1 := du_rg (part_rg hA.1 0 1 (Or.inl rfl)) (k / 3) (by omega)
            have hr2 := du_rg (part_rg hA.1 0 2 (Or.inr rfl)) (k % 3) (by omega)
            refine o_callV cs_X9_endBy cv_X9_227 (c_X9_endBy m (aC mu cord) nc np hA2.1 _ _ hr1 hr2) hq.2.2.2 (Nat.le_of_ble_eq_true rfl) dX9_oddsOf_63 rfl (by decide) (by rfl) (by rfl) (by rfl) rfl rfl (Nat.le_of_ble_eq_true rfl) (fun rE mE hE => ?_)
            have eE : rE = cn (tv mu cord (tget mu 9 0 1 + (nI (k / 3) - 1)) (tget mu 9 0 2 + (nI (k % 3) - 1)) 1 (-1) 0 100 9) := by rw [hE.2.2.1]; show cn (tv m _ _ _ _ _ _ _ _) = _; rw [hA2.2]; rfl
            subst eE
            refine o_iload_n dX9_oddsOf_66 rfl rfl (by rfl) ?_
            refine o_icmp_ne (tgt := 75) dX9_oddsOf_67 (by decide) rfl (fun (c67 : ¬ (cn (tv mu cord (tget mu 9 0 1 + (nI (k / 3) - 1)) (tget mu 9 0 2 + (nI (k % 3) - 1)) 1 (-1) 0 100 9)) = cup) => ?_) (fun (c67 : (cn (tv mu cord (tget mu 9 0 1 + (nI (k / 3) - 1)) (tget mu 9 0 2 + (nI (k % 3) - 1)) 1 (-1) 0 100 9)) = cup) => ?_)
            · skip
              refine o_iconst (v := 0) dX9_oddsOf_75 rfl (by decide) ?_
              refine o_iadd dX9_oddsOf_76 rfl ?_
              refine o_istore_n (L' := [(0, vC 94), (1, vI cup), (2, vI ((odS mu cord cup k) + 0)), (3, vI (nI k)), (4, vI (1 * 1))]) dX9_oddsOf_77 rfl rfl (by decide) (by rfl) (by rfl) ?_
              refine o_iinc (v := nI (k + 1)) (L' := [(0, vC 94), (1, vI cup), (2, vI ((odS mu cord cup k) + 0)), (3, vI (nI (k + 1))), (4, vI (1 * 1))]) dX9_oddsOf_78 rfl (by rfl) (by exact nI_1 k) (by decide) (by rfl) (by rfl) ?_
              refine o_goto (tgt := 4) dX9_oddsOf_81 (by decide) ?_
              refine o_pick (L' := [(0, vC 94), (1, vI cup), (2, vI ((odS mu cord cup k) + 0)), (3, vI (nI (k + 1)))]) [0, 1, 2, 3] (by rfl) ?_
              rw [show ((odS mu cord cup k) + 0) = odS mu cord cup (k + 1) by show _ = odS mu cord cup k + odT mu cord cup k; unfold odT odW; rw [if_neg (fun h9 => c14 ((od_w k hk2).1.mpr h9)), if_neg (fun h9 => c26 ((od_w k hk2).2.mpr h9)), if_neg (fun h9 => c67 ((cn_eq h4 h1).mpr h9))]]
              exact ihLP4 (k + 1) _ (by omega) (hF.tr hE.1) (by omega)
            · skip
              refine o_iload dX9_oddsOf_70 rfl (by rfl) ?_
              refine o_goto (tgt := 76) dX9_oddsOf_72 (by decide) ?_
              refine o_iadd dX9_oddsOf_76 rfl ?_
              refine o_istore_n (L' := [(0, vC 94), (1, vI cup), (2, vI ((odS mu cord cup k) + (1 * 1))), (3, vI (nI k)), (4, vI (1 * 1))]) dX9_oddsOf_77 rfl rfl (by decide) (by rfl) (by rfl) ?_
              refine o_iinc (v := nI (k + 1)) (L' := [(0, vC 94), (1, vI cup), (2, vI ((odS mu cord cup k) + (1 * 1))), (3, vI (nI (k + 1))), (4, vI (1 * 1))]) dX9_oddsOf_78 rfl (by rfl) (by exact nI_1 k) (by decide) (by rfl) (by rfl) ?_
              refine o_goto (tgt := 4) dX9_oddsOf_81 (by decide) ?_
              refine o_pick (L' := [(0, vC 94), (1, vI cup), (2, vI ((odS mu cord cup k) + (1 * 1))), (3, vI (nI (k + 1)))]) [0, 1, 2, 3] (by rfl) ?_
              rw [show ((odS mu cord cup k) + (1 * 1)) = odS mu cord cup (k + 1) by show _ = odS mu cord cup k + odT mu cord cup k; unfold odT odW; rw [if_neg (fun h9 => c14 ((od_w k hk2).1.mpr h9)), if_neg (fun h9 => c26 ((od_w k hk2).2.mpr h9)), if_pos ((cn_eq h4 h1).mp c67)]]
              exact ihLP4 (k + 1) _ (by omega) (hF.tr hE.1) (by omega)
          · skip
            refine o_iconst (v := 2) dX9_oddsOf_29 rfl (by decide) ?_
            refine o_goto (tgt := 34) dX9_oddsOf_30 (by decide) ?_
            refine o_imul dX9_oddsOf_34 rfl ?_
            refine o_istore (L' := [(0, vC 94), (1, vI cup), (2, vI (odS mu cord cup k)), (3, vI (nI k)), (4, vI (1 * 2))]) dX9_oddsOf_35 rfl (by decide) (by rfl) (by rfl) ?_
            refine o_iload_n dX9_oddsOf_37 rfl rfl (by rfl) ?_
            refine o_aload_n dX9_oddsOf_38 rfl rfl (by rfl) ?_
            refine o_aload_n dX9_oddsOf_39 rfl rfl (by rfl) ?_
            refine o_getC (q := 97) cl_X9_16 dX9_oddsOf_40 rfl (by decide) (by rfl) (by rfl) ?_
            refine o_iconst (v := 1) dX9_oddsOf_43 rfl (by decide) ?_
            refine o_iald dX9_oddsOf_44 rfl (by decide) (by rfl) (by rfl) (vp_in_nI (n := 1) (by decide) (by decide)) ?_
            refine o_iload_n dX9_oddsOf_45 rfl rfl (by rfl) ?_
            refine o_iconst (v := 3) dX9_oddsOf_46 rfl (by decide) ?_
            refine o_idiv dX9_oddsOf_47 rfl (by decide) ?_
            refine o_iadd dX9_oddsOf_48 rfl ?_
            refine o_iconst (v := 1) dX9_oddsOf_49 rfl (by decide) ?_
            refine o_isub dX9_oddsOf_50 rfl ?_
            refine o_aload_n dX9_oddsOf_51 rfl rfl (by rfl) ?_
            refine o_getC (q := 97) cl_X9_16 dX9_oddsOf_52 rfl (by decide) (by rfl) (by rfl) ?_
            refine o_iconst (v := 2) dX9_oddsOf_55 rfl (by decide) ?_
            refine o_iald dX9_oddsOf_56 rfl (by decide) (by rfl) (by rfl) (vp_in_nI (n := 2) (by decide) (by decide)) ?_
            refine o_iload_n dX9_oddsOf_57 rfl rfl (by rfl) ?_
            refine o_iconst (v := 3) dX9_oddsOf_58 rfl (by decide) ?_
            refine o_irem dX9_oddsOf_59 rfl (by decide) ?_
            refine o_iadd dX9_oddsOf_60 rfl ?_
            refine o_iconst (v := 1) dX9_oddsOf_61 rfl (by decide) ?_
            refine o_isub dX9_oddsOf_62 rfl ?_
            have hA2 := toka_fr hA hF
            have huv := hA2.1.uv hnp
            have h97a : m 97 (Int32.toNatClampNeg 1) = tget mu 9 0 1 := huv.1
            have h97b : m 97 (Int32.toNatClampNeg 2) = tget mu 9 0 2 := huv.2
            rw [h97a, h97b, (od_d k hk2).2, (od_d k hk2).1, add_sub_a, add_sub_a]
            have hr1 := du_rg (part_rg hA.1 0 1 (Or.inl rfl)) (k / 3) (by omega)
            have hr2 := du_rg (part_rg hA.1 0 2 (Or.inr rfl)) (k % 3) (by omega)
            refine o_callV cs_X9_endBy cv_X9_227 (c_X9_endBy m (aC mu cord) nc np hA2.1 _ _ hr1 hr2) hq.2.2.2 (Nat.le_of_ble_eq_true rfl) dX9_oddsOf_63 rfl (by decide) (by rfl) (by rfl) (by rfl) rfl rfl (Nat.le_of_ble_eq_true rfl) (fun rE mE hE => ?_)
            have eE : rE = cn (tv mu cord (tget mu 9 0 1 + (nI (k / 3) - 1)) (tget mu 9 0 2 + (nI (k % 3) - 1)) 1 (-1) 0 100 9) := by rw [hE.2.2.1]; show cn (tv m _ _ _ _ _ _ _ _) = _; rw [hA2.2]; rfl
            subst eE
            refine o_iload_n dX9_oddsOf_66 rfl rfl (by rfl) ?_
            refine o_icmp_ne (tgt := 75) dX9_oddsOf_67 (by decide) rfl (fun (c67 : ¬ (cn (tv mu cord (tget mu 9 0 1 + (nI (k / 3) - 1)) (tget mu 9 0 2 + (nI (k % 3) - 1)) 1 (-1) 0 100 9)) = cup) => ?_) (fun (c67 : (cn (tv mu cord (tget mu 9 0 1 + (nI (k / 3) - 1)) (tget mu 9 0 2 + (nI (k % 3) - 1)) 1 (-1) 0 100 9)) = cup) => ?_)
            · skip
              refine o_iconst (v := 0) dX9_oddsOf_75 rfl (by decide) ?_
              refine o_iadd dX9_oddsOf_76 rfl ?_
              refine o_istore_n (L' := [(0, vC 94), (1, vI cup), (2, vI ((odS mu cord cup k) + 0)), (3, vI (nI k)), (4, vI (1 * 2))]) dX9_oddsOf_77 rfl rfl (by decide) (by rfl) (by rfl) ?_
              refine o_iinc (v := nI (k + 1)) (L' := [(0, vC 94), (1, vI cup), (2, vI ((odS mu cord cup k) + 0)), (3, vI (nI (k + 1))), (4, vI (1 * 2))]) dX9_oddsOf_78 rfl (by rfl) (by exact nI_1 k) (by decide) (by rfl) (by rfl) ?_
              refine o_goto (tgt := 4) dX9_oddsOf_81 (by decide) ?_
              refine o_pick (L' := [(0, vC 94), (1, vI cup), (2, vI ((odS mu cord cup k) + 0)), (3, vI (nI (k + 1)))]) [0, 1, 2, 3] (by rfl) ?_
              rw [show ((odS mu cord cup k) + 0) = odS mu cord cup (k + 1) by show _ = odS mu cord cup k + odT mu cord cup k; unfold odT odW; rw [if_neg (fun h9 => c14 ((od_w k hk2).1.mpr h9)), if_pos ((od_w k hk2).2.mp c26), if_neg (fun h9 => c67 ((cn_eq h4 h1).mpr h9))]]
              exact ihLP4 (k + 1) _ (by omega) (hF.tr hE.1) (by omega)
            · skip
              refine o_iload dX9_oddsOf_70 rfl (by rfl) ?_
              refine o_goto (tgt := 76) dX9_oddsOf_72 (by decide) ?_
              refine o_iadd dX9_oddsOf_76 rfl ?_
              refine o_istore_n (L' := [(0, vC 94), (1, vI cup), (2, vI ((odS mu cord cup k) + (1 * 2))), (3, vI (nI k)), (4, vI (1 * 2))]) dX9_oddsOf_77 rfl rfl (by decide) (by rfl) (by rfl) ?_
              refine o_iinc (v := nI (k + 1)) (L' := [(0, vC 94), (1, vI cup), (2, vI ((odS mu cord cup k) + (1 * 2))), (3, vI (nI (k + 1))), (4, vI (1 * 2))]) dX9_oddsOf_78 rfl (by rfl) (by exact nI_1 k) (by decide) (by rfl) (by rfl) ?_
              refine o_goto (tgt := 4) dX9_oddsOf_81 (by decide) ?_
              refine o_pick (L' := [(0, vC 94), (1, vI cup), (2, vI ((odS mu cord cup k) + (1 * 2))), (3, vI (nI (k + 1)))]) [0, 1, 2, 3] (by rfl) ?_
              rw [show ((odS mu cord cup k) + (1 * 2)) = odS mu cord cup (k + 1) by show _ = odS mu cord cup k + odT mu cord cup k; unfold odT odW; rw [if_neg (fun h9 => c14 ((od_w k hk2).1.mpr h9)), if_pos ((od_w k hk2).2.mp c26), if_pos ((cn_eq h4 h1).mp c67)]]
              exact ihLP4 (k + 1) _ (by omega) (hF.tr hE.1) (by omega)
        · skip
          refine o_iconst (v := 2) dX9_oddsOf_17 rfl (by decide) ?_
          refine o_goto (tgt := 22) dX9_oddsOf_18 (by decide) ?_
          refine o_iload_n dX9_oddsOf_22 rfl rfl (by rfl) ?_
          refine o_iconst (v := 3) dX9_oddsOf_23 rfl (by decide) ?_
          refine o_irem dX9_oddsOf_24 rfl (by decide) ?_
          refine o_iconst (v := 1) dX9_oddsOf_25 rfl (by decide) ?_
          refine o_icmp_ne (tgt := 33) dX9_oddsOf_26 (by decide) rfl (fun (c26 : ¬ ((nI k) - (nI k) / 3 * 3) = 1) => ?_) (fun (c26 : ((nI k) - (nI k) / 3 * 3) = 1) => ?_)
          · skip
            refine o_iconst (v := 1) dX9_oddsOf_33 rfl (by decide) ?_
            refine o_imul dX9_oddsOf_34 rfl ?_
            refine o_istore (L' := [(0, vC 94), (1, vI cup), (2, vI (odS mu cord cup k)), (3, vI (nI k)), (4, vI (2 * 1))]) dX9_oddsOf_35 rfl (by decide) (by rfl) (by rfl) ?_
            refine o_iload_n dX9_oddsOf_37 rfl rfl (by rfl) ?_
            refine o_aload_n dX9_oddsOf_38 rfl rfl (by rfl) ?_
            refine o_aload_n dX9_oddsOf_39 rfl rfl (by rfl) ?_
            refine o_getC (q := 97) cl_X9_16 dX9_oddsOf_40 rfl (by decide) (by rfl) (by rfl) ?_
            refine o_iconst (v := 1) dX9_oddsOf_43 rfl (by decide) ?_
            refine o_iald dX9_oddsOf_44 rfl (by decide) (by rfl) (by rfl) (vp_in_nI (n := 1) (by decide) (by decide)) ?_
            refine o_iload_n dX9_oddsOf_45 rfl rfl (by rfl) ?_
            refine o_iconst (v := 3) dX9_oddsOf_46 rfl (by decide) ?_
            refine o_idiv dX9_oddsOf_47 rfl (by decide) ?_
            refine o_iadd dX9_oddsOf_48 rfl ?_
            refine o_iconst (v := 1) dX9_oddsOf_49 rfl (by decide) ?_
            refine o_isub dX9_oddsOf_50 rfl ?_
            refine o_aload_n dX9_oddsOf_51 rfl rfl (by rfl) ?_
            refine o_getC (q := 97) cl_X9_16 dX9_oddsOf_52 rfl (by decide) (by rfl) (by rfl) ?_
            refine o_iconst (v := 2) dX9_oddsOf_55 rfl (by decide) ?_
            refine o_iald dX9_oddsOf_56 rfl (by decide) (by rfl) (by rfl) (vp_in_nI (n := 2) (by decide) (by decide)) ?_
            refine o_iload_n dX9_oddsOf_57 rfl rfl (by rfl) ?_
            refine o_iconst (v := 3) dX9_oddsOf_58 rfl (by decide) ?_
            refine o_irem dX9_oddsOf_59 rfl (by decide) ?_
            refine o_iadd dX9_oddsOf_60 rfl ?_
            refine o_iconst (v := 1) dX9_oddsOf_61 rfl (by decide) ?_
            refine o_isub dX9_oddsOf_62 rfl ?_
            have hA2 := toka_fr hA hF
            have huv := hA2.1.uv hnp
            have h97a : m 97 (Int32.toNatClampNeg 1) = tget mu 9 0 1 := huv.1
            have h97b : m 97 (Int32.toNatClampNeg 2) = tget mu 9 0 2 := huv.2
            rw [h97a, h97b, (od_d k hk2).2, (od_d k hk2).1, add_sub_a, add_sub_a]
            have hr1 := du_rg (part_rg hA.1 0 1 (Or.inl rfl)) (k / 3) (by omega)
            have hr2 := du_rg (part_rg hA.1 0 2 (Or.inr rfl)) (k % 3) (by omega)
            refine o_callV cs_X9_endBy cv_X9_227 (c_X9_endBy m (aC mu cord) nc np hA2.1 _ _ hr1 hr2) hq.2.2.2 (Nat.le_of_ble_eq_true rfl) dX9_oddsOf_63 rfl (by decide) (by rfl) (by rfl) (by rfl) rfl rfl (Nat.le_of_ble_eq_true rfl) (fun rE mE hE => ?_)
            have eE : rE = cn (tv mu cord (tget mu 9 0 1 + (nI (k / 3) - 1)) (tget mu 9 0 2 + (nI (k % 3) - 1)) 1 (-1) 0 100 9) := by rw [hE.2.2.1]; show cn (tv m _ _ _ _ _ _ _ _) = _; rw [hA2.2]; rfl
            subst eE
            refine o_iload_n dX9_oddsOf_66 rfl rfl (by rfl) ?_
            refine o_icmp_ne (tgt := 75) dX9_oddsOf_67 (by decide) rfl (fun (c67 : ¬ (cn (tv mu cord (tget mu 9 0 1 + (nI (k / 3) - 1)) (tget mu 9 0 2 + (nI (k % 3) - 1)) 1 (-1) 0 100 9)) = cup) => ?_) (fun (c67 : (cn (tv mu cord (tget mu 9 0 1 + (nI (k / 3) - 1)) (tget mu 9 0 2 + (nI (k % 3) - 1)) 1 (-1) 0 100 9)) = cup) => ?_)
            · skip
              refine o_iconst (v := 0) dX9_oddsOf_75 rfl (by decide) ?_
              refine o_iadd dX9_oddsOf_76 rfl ?_
              refine o_istore_n (L' := [(0, vC 94), (1, vI cup), (2, vI ((odS mu cord cup k) + 0)), (3, vI (nI k)), (4, vI (2 * 1))]) dX9_oddsOf_77 rfl rfl (by decide) (by rfl) (by rfl) ?_
              refine o_iinc (v := nI (k + 1)) (L' := [(0, vC 94), (1, vI cup), (2, vI ((odS mu cord cup k) + 0)), (3, vI (nI (k + 1))), (4, vI (2 * 1))]) dX9_oddsOf_78 rfl (by rfl) (by exact nI_1 k) (by decide) (by rfl) (by rfl) ?_
              refine o_goto (tgt := 4) dX9_oddsOf_81 (by decide) ?_
              refine o_pick (L' := [(0, vC 94), (1, vI cup), (2, vI ((odS mu cord cup k) + 0)), (3, vI (nI (k + 1)))]) [0, 1, 2, 3] (by rfl) ?_
              rw [show ((odS mu cord cup k) + 0) = odS mu cord cup (k + 1) by show _ = odS mu cord cup k + odT mu cord cup k; unfold odT odW; rw [if_pos ((od_w k hk2).1.mp c14), if_neg (fun h9 => c26 ((od_w k hk2).2.mpr h9)), if_neg (fun h9 => c67 ((cn_eq h4 h1).mpr h9))]]
              exact ihLP4 (k + 1) _ (by omega) (hF.tr hE.1) (by omega)
            · skip
              refine o_iload dX9_oddsOf_70 rfl (by rfl) ?_
              refine o_goto (tgt := 76) dX9_oddsOf_72 (by decide) ?_
              refine o_iadd dX9_oddsOf_76 rfl ?_
              refine o_istore_n (L' := [(0, vC 94), (1, vI cup), (2, vI ((odS mu cord cup k) + (2 * 1))), (3, vI (nI k)), (4, vI (2 * 1))]) dX9_oddsOf_77 rfl rfl (by decide) (by rfl) (by rfl) ?_
              refine o_iinc (v := nI (k + 1)) (L' := [(0, vC 94), (1, vI cup), (2, vI ((odS mu cord cup k) + (2 * 1))), (3, vI (nI (k + 1))), (4, vI (2 * 1))]) dX9_oddsOf_78 rfl (by rfl) (by exact nI_1 k) (by decide) (by rfl) (by rfl) ?_
              refine o_goto (tgt := 4) dX9_oddsOf_81 (by decide) ?_
              refine o_pick (L' := [(0, vC 94), (1, vI cup), (2, vI ((odS mu cord cup k) + (2 * 1))), (3, vI (nI (k + 1)))]) [0, 1, 2, 3] (by rfl) ?_
              rw [show ((odS mu cord cup k) + (2 * 1)) = odS mu cord cup (k + 1) by show _ = odS mu cord cup k + odT mu cord cup k; unfold odT odW; rw [if_pos ((od_w k hk2).1.mp c14), if_neg (fun h9 => c26 ((od_w k hk2).2.mpr h9)), if_pos ((cn_eq h4 h1).mp c67)]]
              exact ihLP4 (k + 1) _ (by omega) (hF.tr hE.1) (by omega)
          · skip
            refine o_iconst (v := 2) dX9_oddsOf_29 rfl (by decide) ?_
            refine o_goto (tgt := 34) dX9_oddsOf_30 (by decide) ?_
            refine o_imul dX9_oddsOf_34 rfl ?_
            refine o_istore (L' := [(0, vC 94), (1, vI cup), (2, vI (odS mu cord cup k)), (3, vI (nI k)), (4, vI (2 * 2))]) dX9_oddsOf_35 rfl (by decide) (by rfl) (by rfl) ?_
            refine o_iload_n dX9_oddsOf_37 rfl rfl (by rfl) ?_
            refine o_aload_n dX9_oddsOf_38 rfl rfl (by rfl) ?_
            refine o_aload_n dX9_oddsOf_39 rfl rfl (by rfl) ?_
            refine o_getC (q := 97) cl_X9_16 dX9_oddsOf_40 rfl (by decide) (by rfl) (by rfl) ?_
            refine o_iconst (v := 1) dX9_oddsOf_43 rfl (by decide) ?_
            refine o_iald dX9_oddsOf_44 rfl (by decide) (by rfl) (by rfl) (vp_in_nI (n := 1) (by decide) (by decide)) ?_
            refine o_iload_n dX9_oddsOf_45 rfl rfl (by rfl) ?_
            refine o_iconst (v := 3) dX9_oddsOf_46 rfl (by decide) ?_
            refine o_idiv dX9_oddsOf_47 rfl (by decide) ?_
            refine o_iadd dX9_oddsOf_48 rfl ?_
            refine o_iconst (v := 1) dX9_oddsOf_49 rfl (by decide) ?_
            refine o_isub dX9_oddsOf_50 rfl ?_
            refine o_aload_n dX9_oddsOf_51 rfl rfl (by rfl) ?_
            refine o_getC (q := 97) cl_X9_16 dX9_oddsOf_52 rfl (by decide) (by rfl) (by rfl) ?_
            refine o_iconst (v := 2) dX9_oddsOf_55 rfl (by decide) ?_
            refine o_iald dX9_oddsOf_56 rfl (by decide) (by rfl) (by rfl) (vp_in_nI (n := 2) (by decide) (by decide)) ?_
            refine o_iload_n dX9_oddsOf_57 rfl rfl (by rfl) ?_
            refine o_iconst (v := 3) dX9_oddsOf_58 rfl (by decide) ?_
            refine o_irem dX9_oddsOf_59 rfl (by decide) ?_
            refine o_iadd dX9_oddsOf_60 rfl ?_
            refine o_iconst (v := 1) dX9_oddsOf_61 rfl (by decide) ?_
            refine o_isub dX9_oddsOf_62 rfl ?_
            have hA2 := toka_fr hA hF
            have huv := hA2.1.uv hnp
            have h97a : m 97 (Int32.toNatClampNeg 1) = tget mu 9 0 1 := huv.1
            have h97b : m 97 (Int32.toNatClampNeg 2) = tget mu 9 0 2 := huv.2
            rw [h97a, h97b, (od_d k hk2).2, (od_d k hk2).1, add_sub_a, add_sub_a]
            have hr1 := du_rg (part_rg hA.1 0 1 (Or.inl rfl)) (k / 3) (by omega)
            have hr2 := du_rg (part_rg hA.1 0 2 (Or.inr rfl)) (k % 3) (by omega)
            refine o_callV cs_X9_endBy cv_X9_227 (c_X9_endBy m (aC mu cord) nc np hA2.1 _ _ hr1 hr2) hq.2.2.2 (Nat.le_of_ble_eq_true rfl) dX9_oddsOf_63 rfl (by decide) (by rfl) (by rfl) (by rfl) rfl rfl (Nat.le_of_ble_eq_true rfl) (fun rE mE hE => ?_)
            have eE : rE = cn (tv mu cord (tget mu 9 0 1 + (nI (k / 3) - 1)) (tget mu 9 0 2 + (nI (k % 3) - 1)) 1 (-1) 0 100 9) := by rw [hE.2.2.1]; show cn (tv m _ _ _ _ _ _ _ _) = _; rw [hA2.2]; rfl
            subst eE
            refine o_iload_n dX9_oddsOf_66 rfl rfl (by rfl) ?_
            refine o_icmp_ne (tgt := 75) dX9_oddsOf_67 (by decide) rfl (fun (c67 : ¬ (cn (tv mu cord (tget mu 9 0 1 + (nI (k / 3) - 1)) (tget mu 9 0 2 + (nI (k % 3) - 1)) 1 (-1) 0 100 9)) = cup) => ?_) (fun (c67 : (cn (tv mu cord (tget mu 9 0 1 + (nI (k / 3) - 1)) (tget mu 9 0 2 + (nI (k % 3) - 1)) 1 (-1) 0 100 9)) = cup) => ?_)
            · skip
              refine o_iconst (v := 0) dX9_oddsOf_75 rfl (by decide) ?_
              refine o_iadd dX9_oddsOf_76 rfl ?_
              refine o_istore_n (L' := [(0, vC 94), (1, vI cup), (2, vI ((odS mu cord cup k) + 0)), (3, vI (nI k)), (4, vI (2 * 2))]) dX9_oddsOf_77 rfl rfl (by decide) (by rfl) (by rfl) ?_
              refine o_iinc (v := nI (k + 1)) (L' := [(0, vC 94), (1, vI cup), (2, vI ((odS mu cord cup k) + 0)), (3, vI (nI (k + 1))), (4, vI (2 * 2))]) dX9_oddsOf_78 rfl (by rfl) (by exact nI_1 k) (by decide) (by rfl) (by rfl) ?_
              refine o_goto (tgt := 4) dX9_oddsOf_81 (by decide) ?_
              refine o_pick (L' := [(0, vC 94), (1, vI cup), (2, vI ((odS mu cord cup k) + 0)), (3, vI (nI (k + 1)))]) [0, 1, 2, 3] (by rfl) ?_
              rw [show ((odS mu cord cup k) + 0) = odS mu cord cup (k + 1) by show _ = odS mu cord cup k + odT mu cord cup k; unfold odT odW; rw [if_pos ((od_w k hk2).1.mp c14), if_pos ((od_w k hk2).2.mp c26), if_neg (fun h9 => c67 ((cn_eq h4 h1).mpr h9))]]
              exact ihLP4 (k + 1) _ (by omega) (hF.tr hE.1) (by omega)
            · skip
              refine o_iload dX9_oddsOf_70 rfl (by rfl) ?_
              refine o_goto (tgt := 76) dX9_oddsOf_72 (by decide) ?_
              refine o_iadd dX9_oddsOf_76 rfl ?_
              refine o_istore_n (L' := [(0, vC 94), (1, vI cup), (2, vI ((odS mu cord cup k) + (2 * 2))), (3, vI (nI k)), (4, vI (2 * 2))]) dX9_oddsOf_77 rfl rfl (by decide) (by rfl) (by rfl) ?_
              refine o_iinc (v := nI (k + 1)) (L' := [(0, vC 94), (1, vI cup), (2, vI ((odS mu cord cup k) + (2 * 2))), (3, vI (nI (k + 1))), (4, vI (2 * 2))]) dX9_oddsOf_78 rfl (by rfl) (by exact nI_1 k) (by decide) (by rfl) (by rfl) ?_
              refine o_goto (tgt := 4) dX9_oddsOf_81 (by decide) ?_
              refine o_pick (L' := [(0, vC 94), (1, vI cup), (2, vI ((odS mu cord cup k) + (2 * 2))), (3, vI (nI (k + 1)))]) [0, 1, 2, 3] (by rfl) ?_
              rw [show ((odS mu cord cup k) + (2 * 2)) = odS mu cord cup (k + 1) by show _ = odS mu cord cup k + odT mu cord cup k; unfold odT odW; rw [if_pos ((od_w k hk2).1.mp c14), if_pos ((od_w k hk2).2.mp c26), if_pos ((cn_eq h4 h1).mp c67)]]
              exact ihLP4 (k + 1) _ (by omega) (hF.tr hE.1) (by omega)
  exact LP4 10 0 _ (by omega) (frR.rf mu) (by omega)
