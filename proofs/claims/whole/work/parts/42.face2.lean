/-! ===== the grid's pulls by number; which, row, cord, down, mended ===== -/
def bst (f g : Nat → Int32) (b0 : Int32) : Nat → Int32 × Int32
  | 0 => (b0, -1)
  | i + 1 => if f i ≤ (bst f g b0 i).2 then bst f g b0 i else (g i, f i)
def rowS (x : Int32) : Nat → Int32
  | 0 => 1000
  | n + 1 => rowS x n * x / 16
def gU (k : Nat) : Int32 := -4 + nI (k / 10)
def gV (k : Nat) : Int32 := 0 + nI (k % 10)
noncomputable def eG (mu : Mu) (cord : Int32) (k : Nat) : Int32 := tv mu cord (gU k) (gV k) 1 (-1) 0 100 9
def cntE (f : Nat → Int32) (cup : Int32) : Nat → Int32
  | 0 => 0
  | k + 1 => cntE f cup k + (if f k = cup then 1 else 0)
theorem gU_rg {k : Nat} (hk : k < 90) : rg (gU k) (-10) 10 := by
  unfold rg gU
  have e : (nI (k / 10)).toInt = (k / 10 : Nat) := nI_toInt (by omega)
  have e4 : (-4 : Int32).toInt = -4 := rfl
  rw [i_add (by rw [e, e4]; omega) (by rw [e, e4]; omega), e, e4]
  omega
theorem gV_rg {k : Nat} : rg (gV k) (-10) 10 := by
  unfold rg gV
  have e : (nI (k % 10)).toInt = (k % 10 : Nat) := nI_toInt (by omega)
  have e0 : (0 : Int32).toInt = 0 := rfl
  rw [i_add (by rw [e, e0]; omega) (by rw [e, e0]; omega), e, e0]
  omega
def fr3 (mu m : Mu) : Prop := ∀ q, q ≠ 53 → q ≠ 54 → q ≠ 56 → m q = mu q
theorem od_cg {m mu : Mu} (hO : TOK mu 9 6 3) (h : ∀ q, 1 ≤ q → q ≤ 26 → m q = mu q) : odS m = odS mu := by
  have et : ∀ row col, tget m 9 row col = tget mu 9 row col := fun row col => tget_cg tab9 hO (fun q a b => h q (by omega) (by omega))
  have e : odT m = odT mu := by
    funext cord cup k
    unfold odT
    rw [tv_cg hO h, et, et]
  funext cord cup k
  induction k with
  | zero => rfl
  | succ k ih =>
    show odS m cord cup k + odT m cord cup k = odS mu cord cup k + odT mu cord cup k
    rw [ih, e]
set_option maxHeartbeats 4000000 in
set_option maxRecDepth 100000 in
theorem c_X0_uOf (mu : Mu) (k : Nat) (hk : k < 90) : Con yX0_uOf cX0_uOf 1 (some .int) 0 [vI (nI k)] mu (fun r mu2 => mu2 = mu ∧ r = gU k) := by
  refine con_of (own := RX0) (by decide) rfl (Nat.le_of_ble_eq_true rfl) (fun X g hq => ?_)
  show WA X g RX0 1 cX0_uOf 0 [(0, vI (nI k))] [] mu
  refine o_bipush (v := (-4)) dX0_uOf_0 rfl (by decide) ?_
  refine o_iload_n dX0_uOf_2 rfl rfl (by rfl) ?_
  refine o_bipush (v := 10) dX0_uOf_3 rfl (by decide) ?_
  refine o_idiv dX0_uOf_5 rfl (by decide) ?_
  refine o_iadd dX0_uOf_6 rfl ?_
  exact o_iret hq dX0_uOf_7 ⟨rfl, by unfold gU; rw [← pk_div (d := 10) (by omega) (by decide) (by decide)]; rfl⟩
set_option maxHeartbeats 4000000 in
set_option maxRecDepth 100000 in
theorem c_X0_vOf (mu : Mu) (k : Nat) (hk : k < 90) : Con yX0_vOf cX0_vOf 1 (some .int) 0 [vI (nI k)] mu (fun r mu2 => mu2 = mu ∧ r = gV k) := by
  refine con_of (own := RX0) (by decide) rfl (Nat.le_of_ble_eq_true rfl) (fun X g hq => ?_)
  show WA X g RX0 1 cX0_vOf 0 [(0, vI (nI k))] [] mu
  refine o_iconst (v := 0) dX0_vOf_0 rfl (by decide) ?_
  refine o_iload_n dX0_vOf_1 rfl rfl (by rfl) ?_
  refine o_bipush (v := 10) dX0_vOf_2 rfl (by decide) ?_
  refine o_irem dX0_vOf_4 rfl (by decide) ?_
  refine o_iadd dX0_vOf_5 rfl ?_
  exact o_iret hq dX0_vOf_6 ⟨rfl, by unfold gV; rw [← pk_rem (d := 10) (by omega) (by decide) (by decide)]; rfl⟩
set_option maxHeartbeats 4000000 in
set_option maxRecDepth 100000 in
theorem c_X0_tryAll (mu : Mu) (hS : SOK mu 1) (cord : Int32) (hcd : rg cord 10 60) : ConV yX0_tryAll cX0_tryAll 4 6 [vC 55, vC 53, vI cord] mu (fun mu2 => fr3 mu mu2 ∧ ∀ k, k < 90 → mu2 56 k = eG mu cord k) := by
  refine conV_of (own := RX0) (by decide) rfl (Nat.le_of_ble_eq_true rfl) (fun X g hq => ?_)
  show WA X g RX0 4 cX0_tryAll 0 [(0, vC 55), (1, vC 53), (2, vI cord)] [] mu
  refine o_iconst (v := 0) dX0_tryAll_0 rfl (by decide) ?_
  refine o_istore_n (L' := [(0, vC 55), (1, vC 53), (2, vI cord), (3, vI 0)]) dX0_tryAll_1 rfl rfl (by decide) (by rfl) (by rfl) ?_
  have LP2 : ∀ (nLP2 : Nat) (k : Nat) (m : Mu) , (k ≤ 90) → (fr3 mu m) → (∀ i, i < k → m 56 i = eG mu cord i) → (90 < k + nLP2) → WA X g RX0 4 cX0_tryAll 2 [(0, vC 55), (1, vC 53), (2, vI cord), (3, vI (nI k))] [] m := by
    intro nLP2
    induction nLP2 with
    | zero =>
      intro k m hk hF hE hm
      exact absurd hm (by omega)
    | succ nLP2 ihLP2 =>
      intro k m hk hF hE hm
      refine o_iload_n dX0_tryAll_2 rfl rfl (by rfl) ?_
      refine o_bipush (v := 90) dX0_tryAll_3 rfl (by decide) ?_
      refine o_icmp_ge (tgt := 33) dX0_tryAll_5 (by decide) rfl (fun (c5 : 90 ≤ (nI k)) => ?_) (fun (c5 : ¬ 90 ≤ (nI k)) => ?_)
      · skip
        have hk2 := nI_dec2 (b := 90) c5 (by omega) (by decide)
        have e2 : k = 90 := by omega
        exact o_vret hq dX0_tryAll_33 ⟨hF, fun i hi => hE i (by omega)⟩
      · skip
        have hk2 := nI_dec (b := 90) c5 (by omega) (by decide)
        refine o_aload_n dX0_tryAll_8 rfl rfl (by rfl) ?_
        refine o_getC (q := 56) cl_X0_9 dX0_tryAll_9 rfl (by decide) (by rfl) (by rfl) ?_
        refine o_iload_n dX0_tryAll_12 rfl rfl (by rfl) ?_
        refine o_aload_n dX0_tryAll_13 rfl rfl (by rfl) ?_
        refine o_iload_n dX0_tryAll_14 rfl rfl (by rfl) ?_
        refine o_iload_n dX0_tryAll_15 rfl rfl (by rfl) ?_
        refine o_callS cs_X0_uOf ct_X0_20 (c_X0_uOf _ k (by omega)) hq.2.2.2 (Nat.le_of_ble_eq_true rfl) dX0_tryAll_16 rfl rfl rfl (Nat.le_of_ble_eq_true rfl) (fun r1 mu1 h1 => ?_)
        obtain ⟨em, h1⟩ := h1
        rw [em]
        subst h1
        refine o_iload_n dX0_tryAll_19 rfl rfl (by rfl) ?_
        refine o_callS cs_X0_vOf ct_X0_24 (c_X0_vOf _ k (by omega)) hq.2.2.2 (Nat.le_of_ble_eq_true rfl) dX0_tryAll_20 rfl rfl rfl (Nat.le_of_ble_eq_true rfl) (fun r2 mu2 h2 => ?_)
        obtain ⟨em, h2⟩ := h2
        rw [em]
        subst h2
        refine o_callV cs_X7_endBy cv_X0_27 (c_X7_endBy m (hS.cg (fun q a b => hF q (by omega) (by omega) (by omega))) cord (gU k) (gV k) hcd (gU_rg (by omega)) gV_rg) hq.2.2.2 (Nat.le_of_ble_eq_true rfl) dX0_tryAll_23 rfl (by decide) (by rfl) (by rfl) (by rfl) rfl rfl (Nat.le_of_ble_eq_true rfl) (fun rE mE hE3 => ?_)
        refine o_iast dX0_tryAll_26 rfl (by decide) (by rfl) (by rfl) (vp_in_nI hk2 (by decide)) ?_
        refine o_iinc (v := nI (k + 1)) (L' := [(0, vC 55), (1, vC 53), (2, vI cord), (3, vI (nI (k + 1)))]) dX0_tryAll_27 rfl (by rfl) (by exact nI_1 k) (by decide) (by rfl) (by rfl) ?_
        refine o_goto (tgt := 2) dX0_tryAll_30 (by decide) ?_
        exact ihLP2 (k + 1) _ (by omega) (fun q a b c => by rw [nI_clamp (by omega), upF_k c, hE3.1 q a b, hF q a b c]) (lt_s (fun i hi => by rw [nI_clamp (by omega), upF_i (by omega), hE3.1 56 (by decide) (by decide)]; exact hE i hi) (by rw [nI_clamp (by omega), upF_s, hE3.2, tv_cg hS.t9 (fun q a b => hF q (by omega) (by omega) (by omega))]; rfl)) (by omega)
  exact LP2 91 0 _ (by omega) (fun _ _ _ _ => rfl) (fun i h => by omega) (by omega)
set_option maxHeartbeats 4000000 in
set_option maxRecDepth 100000 in
theorem c_X0_pullsInto (mu : Mu) (cup : Int32) : Con yX0_pullsInto cX0_pullsInto 4 (some .int) 0 [vC 55, vI cup] mu (fun r mu2 => mu2 = mu ∧ r = cntE (mu 56) cup 90) := by
  refine con_of (own := RX0) (by decide) rfl (Nat.le_of_ble_eq_true rfl) (fun X g hq => ?_)
  show WA X g RX0 4 cX0_pullsInto 0 [(0, vC 55), (1, vI cup)] [] mu
  refine o_iconst (v := 0) dX0_pullsInto_0 rfl (by decide) ?_
  refine o_istore_n (L' := [(0, vC 55), (1, vI cup), (2, vI 0)]) dX0_pullsInto_1 rfl rfl (by decide) (by rfl) (by rfl) ?_
  refine o_iconst (v := 0) dX0_pullsInto_2 rfl (by decide) ?_
  refine o_istore_n (L' := [(0, vC 55), (1, vI cup), (2, vI 0), (3, vI 0)]) dX0_pullsInto_3 rfl rfl (by decide) (by rfl) (by rfl) ?_
  have LP4 : ∀ (nLP4 : Nat) (k : Nat) , (k ≤ 90) → (90 < k + nLP4) → WA X g RX0 4 cX0_pullsInto 4 [(0, vC 55), (1, vI cup), (2, vI (cntE (mu 56) cup k)), (3, vI (nI k))] [] mu := by
    intro nLP4
    induction nLP4 with
    | zero =>
      intro k hk hm
      exact absurd hm (by omega)
    | succ nLP4 ihLP4 =>
      intro k hk hm
      refine o_iload_n dX0_pullsInto_4 rfl rfl (by rfl) ?_
      refine o_bipush (v := 90) dX0_pullsInto_5 rfl (by decide) ?_
      refine o_icmp_ge (tgt := 34) dX0_pullsInto_7 (by decide) rfl (fun (c7 : 90 ≤ (nI k)) => ?_) (fun (c7 : ¬ 90 ≤ (nI k)) => ?_)
      · skip
        have hk2 := nI_dec2 (b := 90) c7 (by omega) (by decide)
        have e2 : k = 90 := by omega
        refine o_iload_n dX0_pullsInto_34 rfl rfl (by rfl) ?_
        exact o_iret hq dX0_pullsInto_35 ⟨rfl, by rw [e2]⟩
      · skip
        have hk2 := nI_dec (b := 90) c7 (by omega) (by decide)
        refine o_iload_n dX0_pullsInto_10 rfl rfl (by rfl) ?_
        refine o_aload_n dX0_pullsInto_11 rfl rfl (by rfl) ?_
        refine o_getC (q := 56) cl_X0_9 dX0_pullsInto_12 rfl (by decide) (by rfl) (by rfl) ?_
        refine o_iload_n dX0_pullsInto_15 rfl rfl (by rfl) ?_
        refine o_iald dX0_pullsInto_16 rfl (by decide) (by rfl) (by rfl) (vp_in_nI hk2 (by decide)) ?_
        refine o_iload_n dX0_pullsInto_17 rfl rfl (by rfl) ?_
        refine o_icmp_ne (tgt := 25) dX0_pullsInto_18 (by decide) rfl (fun (c18 : ¬ (mu 56 (nI k).toNatClampNeg) = cup) => ?_) (fun (c18 : (mu 56 (nI k).toNatClampNeg) = cup) => ?_)
        · skip
          refine o_iconst (v := 0) dX0_pullsInto_25 rfl (by decide) ?_
          refine o_iadd dX0_pullsInto_26 rfl ?_
          refine o_istore_n (L' := [(0, vC 55), (1, vI cup), (2, vI ((cntE (mu 56) cup k) + 0)), (3, vI (nI k))]) dX0_pullsInto_27 rfl rfl (by decide) (by rfl) (by rfl) ?_
          refine o_iinc (v := nI (k + 1)) (L' := [(0, vC 55), (1, vI cup), (2, vI ((cntE (mu 56) cup k) + 0)), (3, vI (nI (k + 1)))]) dX0_pullsInto_28 rfl (by rfl) (by exact nI_1 k) (by decide) (by rfl) (by rfl) ?_
          refine o_goto (tgt := 4) dX0_pullsInto_31 (by decide) ?_
          rw [show (cntE (mu 56) cup k) + 0 = cntE (mu 56) cup (k + 1) by show _ = cntE (mu 56) cup k + (if mu 56 k = cup then 1 else 0); rw [nI_clamp (by omega)] at c18; rw [if_neg c18]]
          exact ihLP4 (k + 1) (by omega) (by omega)
        · skip
          refine o_iconst (v := 1) dX0_pullsInto_21 rfl (by decide) ?_
          refine o_goto (tgt := 26) dX0_pullsInto_22 (by decide) ?_
          refine o_iadd dX0_pullsInto_26 rfl ?_
          refine o_istore_n (L' := [(0, vC 55), (1, vI cup), (2, vI ((cntE (mu 56) cup k) + 1)), (3, vI (nI k))]) dX0_pullsInto_27 rfl rfl (by decide) (by rfl) (by rfl) ?_
          refine o_iinc (v := nI (k + 1)) (L' := [(0, vC 55), (1, vI cup), (2, vI ((cntE (mu 56) cup k) + 1)), (3, vI (nI (k + 1)))]) dX0_pullsInto_28 rfl (by rfl) (by exact nI_1 k) (by decide) (by rfl) (by rfl) ?_
          refine o_goto (tgt := 4) dX0_pullsInto_31 (by decide) ?_
          rw [show (cntE (mu 56) cup k) + 1 = cntE (mu 56) cup (k + 1) by show _ = cntE (mu 56) cup k + (if mu 56 k = cup then 1 else 0); rw [nI_clamp (by omega)] at c18; rw [if_pos c18]]
          exact ihLP4 (k + 1) (by omega) (by omega)
  exact LP4 91 0 (by omega) (by omega)
noncomputable def whF (mu : Mu) (i : Nat) : Int32 := odS mu (mu 2 0) (nI i) 9 * mu (5 + i) 3
set_option maxHeartbeats 4000000 in
set_option maxRecDepth 100000 in
theorem c_X8_which (mu : Mu) (hS : SOK mu 1) (z : Nat) (ez : mu 3 2 = nI z) (hz : z ≤ 4) : Con yX8_which cX8_which 5 (some .int) 7 [vC 0] mu (fun r mu2 => (mu 9 2 = 0 ∧ r = -2 ∧ mu2 = mu) ∨ (¬ mu 9 2 = 0 ∧ fr2 mu mu2 ∧ r = (bst (whF mu) nI (-4) z).1)) := by
  refine con_of (own := RX8) (by decide) rfl (Nat.le_of_ble_eq_true rfl) (fun X g hq => ?_)
  show WA X g RX8 5 cX8_which 0 [(0, vC 0)] [] mu
  refine o_aload_n dX8_which_0 rfl rfl (by rfl) ?_
  refine o_getC (q := 1) cl_X8_10 dX8_which_1 rfl (by decide) (by rfl) (by rfl) ?_
  refine o_callV cs_X4_hasNoPart cv_X8_189 (c_noPart _) hq.2.2.2 (Nat.le_of_ble_eq_true rfl) dX8_which_4 rfl (by decide) (by rfl) (by rfl) (by rfl) rfl rfl (Nat.le_of_ble_eq_true rfl) (fun r1 mu1 h1 => ?_)
  obtain ⟨em, h1⟩ := h1
  rw [em]
  refine o_if_eq (tgt := 13) dX8_which_7 (by decide) rfl (fun (c7 : r1 = 0) => ?_) (fun (c7 : ¬ r1 = 0) => ?_)
  · skip
    have b7 := (if10 h1).1 c7
    refine o_bipush (v := (-4)) dX8_which_13 rfl (by decide) ?_
    refine o_istore_n (L' := [(0, vC 0), (1, vI ((-4)))]) dX8_which_15 rfl rfl (by decide) (by rfl) (by rfl) ?_
    refine o_iconst (v := (-1)) dX8_which_16 rfl (by decide) ?_
    refine o_istore_n (L' := [(0, vC 0), (1, vI ((-4))), (2, vI ((-1)))]) dX8_which_17 rfl rfl (by decide) (by rfl) (by rfl) ?_
    refine o_iconst (v := 0) dX8_which_18 rfl (by decide) ?_
    refine o_istore_n (L' := [(0, vC 0), (1, vI ((-4))), (2, vI ((-1))), (3, vI 0)]) dX8_which_19 rfl rfl (by decide) (by rfl) (by rfl) ?_
    have LP20 : ∀ (nLP20 : Nat) (i : Nat) (m : Mu) , (i ≤ z) → (fr2 mu m) → (z < i + nLP20) → WA X g RX8 5 cX8_which 20 [(0, vC 0), (1, vI ((bst (whF mu) nI (-4) i).1)), (2, vI ((bst (whF mu) nI (-4) i).2)), (3, vI (nI i))] [] m := by
      intro nLP20
      induction nLP20 with
      | zero =>
        intro i m hi hF hm
        exact absurd hm (by omega)
      | succ nLP20 ihLP20 =>
        intro i m hi hF hm
        refine o_iload_n dX8_which_20 rfl rfl (by rfl) ?_
        refine o_aload_n dX8_which_21 rfl rfl (by rfl) ?_
        refine o_getC (q := 1) cl_X8_10 dX8_which_22 rfl (by decide) (by rfl) (by rfl) ?_
        refine o_getC (q := 3) cl_X8_74 dX8_which_25 rfl (by decide) (by rfl) (by rfl) ?_
        refine o_getI cl_X8_182 dX8_which_28 rfl (by decide) (by rfl) (by rfl) ?_
        refine o_icmp_ge (tgt := 83) dX8_which_31 (by decide) rfl (fun (c31 : (m 3 2) ≤ (nI i)) => ?_) (fun (c31 : ¬ (m 3 2) ≤ (nI i)) => ?_)
        · skip
          rw [hF 3 (by decide) (by decide), ez] at c31
          have hzi := nI_dec2 c31 (by omega) (by omega)
          have e2 : i = z := by omega
          refine o_iload_n dX8_which_83 rfl rfl (by rfl) ?_
          exact o_iret hq dX8_which_84 (Or.inr ⟨fun e => b7 (decide_eq_true e), hF, by rw [e2]⟩)
        · skip
          rw [hF 3 (by decide) (by decide), ez] at c31
          have hiz := nI_dec c31 (by omega) (by omega)
          refine o_aload_n dX8_which_34 rfl rfl (by rfl) ?_
          refine o_getC (q := 53) cl_X8_28 dX8_which_35 rfl (by decide) (by rfl) (by rfl) ?_
          refine o_aload_n dX8_which_38 rfl rfl (by rfl) ?_
          refine o_getC (q := 1) cl_X8_10 dX8_which_39 rfl (by decide) (by rfl) (by rfl) ?_
          refine o_getC (q := 2) cl_X8_71 dX8_which_42 rfl (by decide) (by rfl) (by rfl) ?_
          refine o_iconst (v := 0) dX8_which_45 rfl (by decide) ?_
          refine o_iald dX8_which_46 rfl (by decide) (by rfl) (by rfl) (vp_in_nI (n := 0) (by decide) (by decide)) ?_
          rw [show m 2 (0 : Int32).toNatClampNeg = mu 2 0 by rw [hF 2 (by decide) (by decide)]; rfl]
          refine o_iload_n dX8_which_47 rfl rfl (by rfl) ?_
          refine o_callV cs_X7_oddsBy cv_X8_231 (c_X7_oddsBy m (hS.cg (fun q a b => hF q (by omega) (by omega))) (mu 2 0) (nI i) hS.1.1) hq.2.2.2 (Nat.le_of_ble_eq_true rfl) dX8_which_48 rfl (by decide) (by rfl) (by rfl) (by rfl) rfl rfl (Nat.le_of_ble_eq_true rfl) (fun rE mE hE => ?_)
          have hF2 : fr2 mu mE := fun q a b => by rw [hE.1 q a b, hF q a b]
          have eo : odS m = odS mu := od_cg hS.t9 (fun q a b => hF q (by omega) (by omega))
          have hr := hE.2
          rw [eo] at hr
          subst hr
          refine o_aload_n dX8_which_51 rfl rfl (by rfl) ?_
          refine o_getC (q := 1) cl_X8_10 dX8_which_52 rfl (by decide) (by rfl) (by rfl) ?_
          refine o_getC (q := 3) cl_X8_74 dX8_which_55 rfl (by decide) (by rfl) (by rfl) ?_
          refine o_iload_n dX8_which_58 rfl rfl (by rfl) ?_
          refine o_iconst (v := 3) dX8_which_59 rfl (by decide) ?_
          refine o_callV cs_X6_get cv_X8_93 (c_X6_get 3 4 5 tab3 _ (TOK.cg (hF2 3 (by decide) (by decide)) hS.t3) (nI i) 3) hq.2.2.2 (Nat.le_of_ble_eq_true rfl) dX8_which_60 rfl (by decide) (by rfl) (by rfl) (by rfl) rfl rfl (Nat.le_of_ble_eq_true rfl) (fun rG mG hG => ?_)
          obtain ⟨em, hG⟩ := hG
          rw [em]
          have hG := hG.trans ((tget_cg tab3 hS.t3 (fun q a b => hF2 q (by omega) (by omega))).trans (tget_in (j := 3) ez hS.t3.1 hiz (by omega) (by omega) (by omega)))
          subst hG
          refine o_imul dX8_which_63 rfl ?_
          refine o_istore (L' := [(0, vC 0), (1, vI ((bst (whF mu) nI (-4) i).1)), (2, vI ((bst (whF mu) nI (-4) i).2)), (3, vI (nI i)), (4, vI ((odS mu (mu 2 0) (nI i) 9) * (mu (3 + 2 + i) 3)))]) dX8_which_64 rfl (by decide) (by rfl) (by rfl) ?_
          refine o_iload dX8_which_66 rfl (by rfl) ?_
          refine o_iload_n dX8_which_68 rfl rfl (by rfl) ?_
          refine o_icmp_le (tgt := 77) dX8_which_69 (by decide) rfl (fun (c69 : ((odS mu (mu 2 0) (nI i) 9) * (mu (3 + 2 + i) 3)) ≤ ((bst (whF mu) nI (-4) i).2)) => ?_) (fun (c69 : ¬ ((odS mu (mu 2 0) (nI i) 9) * (mu (3 + 2 + i) 3)) ≤ ((bst (whF mu) nI (-4) i).2)) => ?_)
          · skip
            refine o_iinc (v := nI (i + 1)) (L' := [(0, vC 0), (1, vI ((bst (whF mu) nI (-4) i).1)), (2, vI ((bst (whF mu) nI (-4) i).2)), (3, vI (nI (i + 1))), (4, vI ((odS mu (mu 2 0) (nI i) 9) * (mu (3 + 2 + i) 3)))]) dX8_which_77 rfl (by rfl) (by exact nI_1 i) (by decide) (by rfl) (by rfl) ?_
            refine o_goto (tgt := 20) dX8_which_80 (by decide) ?_
            refine o_pick (L' := [(0, vC 0), (1, vI ((bst (whF mu) nI (-4) i).1)), (2, vI ((bst (whF mu) nI (-4) i).2)), (3, vI (nI (i + 1)))]) [0, 1, 2, 3] (by rfl) ?_
            have es : bst (whF mu) nI (-4) (i + 1) = bst (whF mu) nI (-4) i := by show (if whF mu i ≤ (bst (whF mu) nI (-4) i).2 then bst (whF mu) nI (-4) i else (nI i, whF mu i)) = _; rw [show whF mu i = odS mu (mu 2 0) (nI i) 9 * mu (3 + 2 + i) 3 from rfl, if_pos c69]
            have hI := ihLP20 (i + 1) mE (by omega) hF2 (by omega)
            rw [es] at hI
            exact hI
          · skip
            refine o_iload dX8_which_72 rfl (by rfl) ?_
            refine o_istore_n (L' := [(0, vC 0), (1, vI ((bst (whF mu) nI (-4) i).1)), (2, vI ((odS mu (mu 2 0) (nI i) 9) * (mu (3 + 2 + i) 3))), (3, vI (nI i)), (4, vI ((odS mu (mu 2 0) (nI i) 9) * (mu (3 + 2 + i) 3)))]) dX8_which_74 rfl rfl (by decide) (by rfl) (by rfl) ?_
            refine o_iload_n dX8_which_75 rfl rfl (by rfl) ?_
            refine o_istore_n (L' := [(0, vC 0), (1, vI (nI i)), (2, vI ((odS mu (mu 2 0) (nI i) 9) * (mu (3 + 2 + i) 3))), (3, vI (nI i)), (4, vI ((odS mu (mu 2 0) (nI i) 9) * (mu (3 + 2 + i) 3)))]) dX8_which_76 rfl rfl (by decide) (by rfl) (by rfl) ?_
            refine o_iinc (v := nI (i + 1)) (L' := [(0, vC 0), (1, vI (nI i)), (2, vI ((odS mu (mu 2 0) (nI i) 9) * (mu (3 + 2 + i) 3))), (3, vI (nI (i + 1))), (4, vI ((odS mu (mu 2 0) (nI i) 9) * (mu (3 + 2 + i) 3)))]) dX8_which_77 rfl (by rfl) (by exact nI_1 i) (by decide) (by rfl) (by rfl) ?_
            refine o_goto (tgt := 20) dX8_which_80 (by decide) ?_
            refine o_pick (L' := [(0, vC 0), (1, vI (nI i)), (2, vI ((odS mu (mu 2 0) (nI i) 9) * (mu (3 + 2 + i) 3))), (3, vI (nI (i + 1)))]) [0, 1, 2, 3] (by rfl) ?_
            have es : bst (whF mu) nI (-4) (i + 1) = (nI i, odS mu (mu 2 0) (nI i) 9 * mu (3 + 2 + i) 3) := by show (if whF mu i ≤ (bst (whF mu) nI (-4) i).2 then bst (whF mu) nI (-4) i else (nI i, whF mu i)) = _; rw [show whF mu i = odS mu (mu 2 0) (nI i) 9 * mu (3 + 2 + i) 3 from rfl, if_neg c69]
            have hI := ihLP20 (i + 1) mE (by omega) hF2 (by omega)
            rw [es] at hI
            exact hI
    exact LP20 (z + 1) 0 _ (by omega) (fun _ _ _ => rfl) (by omega)
  · skip
    have b7 := (if10 h1).2 c7
    refine o_bipush (v := (-2)) dX8_which_10 rfl (by decide) ?_
    exact o_iret hq dX8_which_12 (Or.inl ⟨of_decide_eq_true b7, rfl, rfl⟩)
set_option maxHeartbeats 4000000 in
set_option maxRecDepth 100000 in
theorem c_X8_row (mu : Mu) (hS : SOK mu 1) (tr n : Int32) : Con yX8_row cX8_row 5 (some .int) 1 [vC 0, vI tr, vI n] mu (fun r mu2 => mu2 = mu ∧ (((hasB mu 17 tr && inB n 1 99) = false ∧ r = -1) ∨ ((hasB mu 17 tr && inB n 1 99) = true ∧ ∃ N, n = nI N ∧ N ≤ 99 ∧ r = rowS (tget mu 17 tr 0) N))) := by
  refine con_of (own := RX8) (by decide) rfl (Nat.le_of_ble_eq_true rfl) (fun X g hq => ?_)
  show WA X g RX8 5 cX8_row 0 [(0, vC 0), (1, vI tr), (2, vI n)] [] mu
  refine o_aload_n dX8_row_0 rfl rfl (by rfl) ?_
  refine o_getC (q := 1) cl_X8_10 dX8_row_1 rfl (by decide) (by rfl) (by rfl) ?_
  refine o_getC (q := 17) cl_X8_186 dX8_row_4 rfl (by decide) (by rfl) (by rfl) ?_
  refine o_iload_n dX8_row_7 rfl rfl (by rfl) ?_
  refine o_callV cs_X6_has cv_X8_88 (c_has 17 8 4 tab17 _ tr) hq.2.2.2 (Nat.le_of_ble_eq_true rfl) dX8_row_8 rfl (by decide) (by rfl) (by rfl) (by rfl) rfl rfl (Nat.le_of_ble_eq_true rfl) (fun r1 mu1 h1 => ?_)
  obtain ⟨em, h1⟩ := h1
  rw [em]
  refine o_if_eq (tgt := 24) dX8_row_11 (by decide) rfl (fun (c11 : r1 = 0) => ?_) (fun (c11 : ¬ r1 = 0) => ?_)
  · skip
    have b11 := (if10 h1).1 c11
    refine o_iconst (v := (-1)) dX8_row_24 rfl (by decide) ?_
    exact o_iret hq dX8_row_25 ⟨rfl, Or.inl ⟨by simp [b11], rfl⟩⟩
  · skip
    have b11 := (if10 h1).2 c11
    refine o_iload_n dX8_row_14 rfl rfl (by rfl) ?_
    refine o_iconst (v := 1) dX8_row_15 rfl (by decide) ?_
    refine o_bipush (v := 99) dX8_row_16 rfl (by decide) ?_
    refine o_callS cs_X8_isIn ct_X8_60 (c_isIn _ n 1 99) hq.2.2.2 (Nat.le_of_ble_eq_true rfl) dX8_row_18 rfl rfl rfl (Nat.le_of_ble_eq_true rfl) (fun r2 mu2 h2 => ?_)
    obtain ⟨em, h2⟩ := h2
    rw [em]
    refine o_if_ne (tgt := 26) dX8_row_21 (by decide) rfl (fun (c21 : ¬ r2 = 0) => ?_) (fun (c21 : r2 = 0) => ?_)
    · skip
      have b21 := (if10 h2).2 c21
      obtain ⟨N, eN, hN1, hN⟩ := inB_nI (l := 1) (m := 99) (by decide) (by decide) b21
      subst eN
      refine o_sipush (v := 1000) dX8_row_26 rfl (by decide) ?_
      refine o_istore_n (L' := [(0, vC 0), (1, vI tr), (2, vI (nI N)), (3, vI 1000)]) dX8_row_29 rfl rfl (by decide) (by rfl) (by rfl) ?_
      refine o_iconst (v := 0) dX8_row_30 rfl (by decide) ?_
      refine o_istore (L' := [(0, vC 0), (1, vI tr), (2, vI (nI N)), (3, vI 1000), (4, vI 0)]) dX8_row_31 rfl (by decide) (by rfl) (by rfl) ?_
      have LP33 : ∀ (nLP33 : Nat) (i : Nat) , (i ≤ N) → (N < i + nLP33) → WA X g RX8 5 cX8_row 33 [(0, vC 0), (1, vI tr), (2, vI (nI N)), (3, vI (rowS (tget mu 17 tr 0) i)), (4, vI (nI i))] [] mu := by
        intro nLP33
        induction nLP33 with
        | zero =>
          intro i hi hm
          exact absurd hm (by omega)
        | succ nLP33 ihLP33 =>
          intro i hi hm
          refine o_iload dX8_row_33 rfl (by rfl) ?_
          refine o_iload_n dX8_row_35 rfl rfl (by rfl) ?_
          refine o_icmp_ge (tgt := 63) dX8_row_36 (by decide) rfl (fun (c36 : (nI N) ≤ (nI i)) => ?_) (fun (c36 : ¬ (nI N) ≤ (nI i)) => ?_)
          · skip
            have hzi := nI_dec2 c36 (by omega) (by omega)
            have e2 : i = N := by omega
            refine o_iload_n dX8_row_63 rfl rfl (by rfl) ?_
            exact o_iret hq dX8_row_64 ⟨rfl, Or.inr ⟨by simp [b11, b21], N, rfl, hN, by rw [e2]⟩⟩
          · skip
            have hiz := nI_dec c36 (by omega) (by omega)
            refine o_iload_n dX8_row_39 rfl rfl (by rfl) ?_
            refine o_aload_n dX8_row_40 rfl rfl (by rfl) ?_
            refine o_getC (q := 1) cl_X8_10 dX8_row_41 rfl (by decide) (by rfl) (by rfl) ?_
            refine o_getC (q := 17) cl_X8_186 dX8_row_44 rfl (by decide) (by rfl) (by rfl) ?_
            refine o_iload_n dX8_row_47 rfl rfl (by rfl) ?_
            refine o_iconst (v := 0) dX8_row_48 rfl (by decide) ?_
            refine o_callV cs_X6_get cv_X8_93 (c_X6_get 17 8 4 tab17 _ (TOK.cg (by rfl) hS.t17) tr 0) hq.2.2.2 (Nat.le_of_ble_eq_true rfl) dX8_row_49 rfl (by decide) (by rfl) (by rfl) (by rfl) rfl rfl (Nat.le_of_ble_eq_true rfl) (fun r3 mu3 h3 => ?_)
            obtain ⟨em, h3⟩ := h3
            rw [em]
            subst h3
            refine o_imul dX8_row_52 rfl ?_
            refine o_bipush (v := 16) dX8_row_53 rfl (by decide) ?_
            refine o_idiv dX8_row_55 rfl (by decide) ?_
            refine o_istore_n (L' := [(0, vC 0), (1, vI tr), (2, vI (nI N)), (3, vI (((rowS (tget mu 17 tr 0) i) * (tget mu 17 tr 0)) / 16)), (4, vI (nI i))]) dX8_row_56 rfl rfl (by decide) (by rfl) (by rfl) ?_
            refine o_iinc (v := nI (i + 1)) (L' := [(0, vC 0), (1, vI tr), (2, vI (nI N)), (3, vI (((rowS (tget mu 17 tr 0) i) * (tget mu 17 tr 0)) / 16)), (4, vI (nI (i + 1)))]) dX8_row_57 rfl (by rfl) (by exact nI_1 i) (by decide) (by rfl) (by rfl) ?_
            refine o_goto (tgt := 33) dX8_row_60 (by decide) ?_
            exact ihLP33 (i + 1) (by omega) (by omega)
      exact LP33 (N + 1) 0 (by omega) (by omega)
    · skip
      have b21 := (if10 h2).1 c21
      refine o_iconst (v := (-1)) dX8_row_24 rfl (by decide) ?_
      exact o_iret hq dX8_row_25 ⟨rfl, Or.inl ⟨by simp [b11, b21], rfl⟩⟩
noncomputable def coF (mu : Mu) (cup : Int32) (i : Nat) : Int32 := odS mu (nI (10 + i)) cup 9
def coG (i : Nat) : Int32 := nI (10 + i)
set_option maxHeartbeats 4000000 in
set_option maxRecDepth 100000 in
theorem c_X8_cord (mu : Mu) (hS : SOK mu 1) (cup what : Int32) : Con yX8_cord cX8_cord 7 (some .int) 7 [vC 0, vI cup, vI what] mu (fun r mu2 => ((hasB mu 3 cup && inB what 0 1) = false ∧ r = -1 ∧ mu2 = mu) ∨ ((hasB mu 3 cup && inB what 0 1) = true ∧ mu 9 2 = 0 ∧ r = -2 ∧ mu2 = mu) ∨ ((hasB mu 3 cup && inB what 0 1) = true ∧ ¬ mu 9 2 = 0 ∧ fr2 mu mu2 ∧ r = if what = 0 then (bst (coF mu cup) coG 10 51).1 else (bst (coF mu cup) coG 10 51).2)) := by
  refine con_of (own := RX8) (by decide) rfl (Nat.le_of_ble_eq_true rfl) (fun X g hq => ?_)
  show WA X g RX8 7 cX8_cord 0 [(0, vC 0), (1, vI cup), (2, vI what)] [] mu
  refine o_aload_n dX8_cord_0 rfl rfl (by rfl) ?_
  refine o_getC (q := 1) cl_X8_10 dX8_cord_1 rfl (by decide) (by rfl) (by rfl) ?_
  refine o_getC (q := 3) cl_X8_74 dX8_cord_4 rfl (by decide) (by rfl) (by rfl) ?_
  refine o_iload_n dX8_cord_7 rfl rfl (by rfl) ?_
  refine o_callV cs_X6_has cv_X8_88 (c_has 3 4 5 tab3 _ cup) hq.2.2.2 (Nat.le_of_ble_eq_true rfl) dX8_cord_8 rfl (by decide) (by rfl) (by rfl) (by rfl) rfl rfl (Nat.le_of_ble_eq_true rfl) (fun r1 mu1 h1 => ?_)
  obtain ⟨em, h1⟩ := h1
  rw [em]
  refine o_if_eq (tgt := 23) dX8_cord_11 (by decide) rfl (fun (c11 : r1 = 0) => ?_) (fun (c11 : ¬ r1 = 0) => ?_)
  · skip
    have b11 := (if10 h1).1 c11
    refine o_iconst (v := (-1)) dX8_cord_23 rfl (by decide) ?_
    exact o_iret hq dX8_cord_24 (Or.inl ⟨by simp [b11], rfl, rfl⟩)
  · skip
    have b11 := (if10 h1).2 c11
    refine o_iload_n dX8_cord_14 rfl rfl (by rfl) ?_
    refine o_iconst (v := 0) dX8_cord_15 rfl (by decide) ?_
    refine o_iconst (v := 1) dX8_cord_16 rfl (by decide) ?_
    refine o_callS cs_X8_isIn ct_X8_60 (c_isIn _ what 0 1) hq.2.2.2 (Nat.le_of_ble_eq_true rfl) dX8_cord_17 rfl rfl rfl (Nat.le_of_ble_eq_true rfl) (fun r2 mu2 h2 => ?_)
    obtain ⟨em, h2⟩ := h2
    rw [em]
    refine o_if_ne (tgt := 25) dX8_cord_20 (by decide) rfl (fun (c20 : ¬ r2 = 0) => ?_) (fun (c20 : r2 = 0) => ?_)
    · skip
      have b20 := (if10 h2).2 c20
      refine o_aload_n dX8_cord_25 rfl rfl (by rfl) ?_
      refine o_getC (q := 1) cl_X8_10 dX8_cord_26 rfl (by decide) (by rfl) (by rfl) ?_
      refine o_callV cs_X4_hasNoPart cv_X8_189 (c_noPart _) hq.2.2.2 (Nat.le_of_ble_eq_true rfl) dX8_cord_29 rfl (by decide) (by rfl) (by rfl) (by rfl) rfl rfl (Nat.le_of_ble_eq_true rfl) (fun r3 mu3 h3 => ?_)
      obtain ⟨em, h3⟩ := h3
      rw [em]
      refine o_if_eq (tgt := 38) dX8_cord_32 (by decide) rfl (fun (c32 : r3 = 0) => ?_) (fun (c32 : ¬ r3 = 0) => ?_)
      · skip
        have b32 := (if10 h3).1 c32
        refine o_gets0 dX8_cord_38 rfl st_64 ?_
        refine o_iconst (v := 0) dX8_cord_41 rfl (by decide) ?_
        refine o_ti0 dX8_cord_42 rfl (vp_in_nI (n := 0) (by decide) (by decide)) ?_
        refine o_istore_n (L' := [(0, vC 0), (1, vI cup), (2, vI what), (3, vI 10)]) dX8_cord_43 rfl rfl (by decide) (by rfl) (by rfl) ?_
        refine o_iconst (v := (-1)) dX8_cord_44 rfl (by decide) ?_
        refine o_istore (L' := [(0, vC 0), (1, vI cup), (2, vI what), (3, vI 10), (4, vI ((-1)))]) dX8_cord_45 rfl (by decide) (by rfl) (by rfl) ?_
        refine o_gets0 dX8_cord_47 rfl st_64 ?_
        refine o_iconst (v := 0) dX8_cord_50 rfl (by decide) ?_
        refine o_ti0 dX8_cord_51 rfl (vp_in_nI (n := 0) (by decide) (by decide)) ?_
        refine o_istore (L' := [(0, vC 0), (1, vI cup), (2, vI what), (3, vI 10), (4, vI ((-1))), (5, vI 10)]) dX8_cord_52 rfl (by decide) (by rfl) (by rfl) ?_
        have LP54 : ∀ (nLP54 : Nat) (i : Nat) (m : Mu) , (i ≤ 51) → (fr2 mu m) → (51 < i + nLP54) → WA X g RX8 7 cX8_cord 54 [(0, vC 0), (1, vI cup), (2, vI what), (3, vI ((bst (coF mu cup) coG 10 i).1)), (4, vI ((bst (coF mu cup) coG 10 i).2)), (5, vI (nI (10 + i)))] [] m := by
          intro nLP54
          induction nLP54 with
          | zero =>
            intro i m hi hF hm
            exact absurd hm (by omega)
          | succ nLP54 ihLP54 =>
            intro i m hi hF hm
            refine o_iload dX8_cord_54 rfl (by rfl) ?_
            refine o_gets1 dX8_cord_56 rfl st_68 ?_
            refine o_iconst (v := 0) dX8_cord_59 rfl (by decide) ?_
            refine o_ti1 dX8_cord_60 rfl (vp_in_nI (n := 0) (by decide) (by decide)) ?_
            refine o_icmp_gt (tgt := 96) dX8_cord_61 (by decide) rfl (fun (c61 : 60 < (nI (10 + i))) => ?_) (fun (c61 : ¬ 60 < (nI (10 + i))) => ?_)
            · skip
              have hzi := (nI_ltI (a := 60) (by decide) (by omega)).mp c61
              have e2 : i = 51 := by omega
              refine o_iload_n dX8_cord_96 rfl rfl (by rfl) ?_
              refine o_if_ne (tgt := 104) dX8_cord_97 (by decide) rfl (fun (c97 : ¬ what = 0) => ?_) (fun (c97 : what = 0) => ?_)
              · skip
                refine o_iload dX8_cord_104 rfl (by rfl) ?_
                exact o_iret hq dX8_cord_106 (Or.inr (Or.inr ⟨by simp [b11, b20, b32], fun e => b32 (decide_eq_true e), hF, by rw [if_neg c97, e2]⟩))
              · skip
                refine o_iload_n dX8_cord_100 rfl rfl (by rfl) ?_
                refine o_goto (tgt := 106) dX8_cord_101 (by decide) ?_
                exact o_iret hq dX8_cord_106 (Or.inr (Or.inr ⟨by simp [b11, b20, b32], fun e => b32 (decide_eq_true e), hF, by rw [if_pos c97, e2]⟩))
            · skip
              have hiz : 10 + i ≤ 60 := Nat.le_of_not_lt (fun q => c61 (nI_lt (a := 60) q (by omega)))
              refine o_aload_n dX8_cord_64 rfl rfl (by rfl) ?_
              refine o_getC (q := 53) cl_X8_28 dX8_cord_65 rfl (by decide) (by rfl) (by rfl) ?_
              refine o_iload dX8_cord_68 rfl (by rfl) ?_
              refine o_iload_n dX8_cord_70 rfl rfl (by rfl) ?_
              refine o_callV cs_X7_oddsBy cv_X8_231 (c_X7_oddsBy m (hS.cg (fun q a b => hF q (by omega) (by omega))) (nI (10 + i)) cup (by unfold rg; rw [nI_toInt (by omega)]; omega)) hq.2.2.2 (Nat.le_of_ble_eq_true rfl) dX8_cord_71 rfl (by decide) (by rfl) (by rfl) (by rfl) rfl rfl (Nat.le_of_ble_eq_true rfl) (fun rE mE hE => ?_)
              have hF2 : fr2 mu mE := fun q a b => by rw [hE.1 q a b, hF q a b]
              have eo : odS m = odS mu := od_cg hS.t9 (fun q a b => hF q (by omega) (by omega))
              have hr := hE.2
              rw [eo] at hr
              subst hr
              refine o_istore (L' := [(0, vC 0), (1, vI cup), (2, vI what), (3, vI ((bst (coF mu cup) coG 10 i).1)), (4, vI ((bst (coF mu cup) coG 10 i).2)), (5, vI (nI (10 + i))), (6, vI (odS mu (nI (10 + i)) cup 9))]) dX8_cord_74 rfl (by decide) (by rfl) (by rfl) ?_
              refine o_iload dX8_cord_76 rfl (by rfl) ?_
              refine o_iload dX8_cord_78 rfl (by rfl) ?_
              refine o_icmp_le (tgt := 90) dX8_cord_80 (by decide) rfl (fun (c80 : (odS mu (nI (10 + i)) cup 9) ≤ ((bst (coF mu cup) coG 10 i).2)) => ?_) (fun (c80 : ¬ (odS mu (nI (10 + i)) cup 9) ≤ ((bst (coF mu cup) coG 10 i).2)) => ?_)
              · skip
                refine o_iinc (v := nI (10 + (i + 1))) (L' := [(0, vC 0), (1, vI cup), (2, vI what), (3, vI ((bst (coF mu cup) coG 10 i).1)), (4, vI ((bst (coF mu cup) coG 10 i).2)), (5, vI (nI (10 + (i + 1)))), (6, vI (odS mu (nI (10 + i)) cup 9))]) dX8_cord_90 rfl (by rfl) (by exact nI_1 (10 + i)) (by decide) (by rfl) (by rfl) ?_
                refine o_goto (tgt := 54) dX8_cord_93 (by decide) ?_
                refine o_pick (L' := [(0, vC 0), (1, vI cup), (2, vI what), (3, vI ((bst (coF mu cup) coG 10 i).1)), (4, vI ((bst (coF mu cup) coG 10 i).2)), (5, vI (nI (10 + (i + 1))))]) [0, 1, 2, 3, 4, 5] (by rfl) ?_
                have es : bst (coF mu cup) coG 10 (i + 1) = bst (coF mu cup) coG 10 i := by show (if coF mu cup i ≤ (bst (coF mu cup) coG 10 i).2 then bst (coF mu cup) coG 10 i else (coG i, coF mu cup i)) = _; rw [show coF mu cup i = odS mu (nI (10 + i)) cup 9 from rfl, if_pos c80]; try rfl
                have hI := ihLP54 (i + 1) mE (by omega) hF2 (by omega)
                rw [es] at hI
                exact hI
              · skip
                refine o_iload dX8_cord_83 rfl (by rfl) ?_
                refine o_istore (L' := [(0, vC 0), (1, vI cup), (2, vI what), (3, vI ((bst (coF mu cup) coG 10 i).1)), (4, vI (odS mu (nI (10 + i)) cup 9)), (5, vI (nI (10 + i))), (6, vI (odS mu (nI (10 + i)) cup 9))]) dX8_cord_85 rfl (by decide) (by rfl) (by rfl) ?_
                refine o_iload dX8_cord_87 rfl (by rfl) ?_
                refine o_istore_n (L' := [(0, vC 0), (1, vI cup), (2, vI what), (3, vI (nI (10 + i))), (4, vI (odS mu (nI (10 + i)) cup 9)), (5, vI (nI (10 + i))), (6, vI (odS mu (nI (10 + i)) cup 9))]) dX8_cord_89 rfl rfl (by decide) (by rfl) (by rfl) ?_
                refine o_iinc (v := nI (10 + (i + 1))) (L' := [(0, vC 0), (1, vI cup), (2, vI what), (3, vI (nI (10 + i))), (4, vI (odS mu (nI (10 + i)) cup 9)), (5, vI (nI (10 + (i + 1)))), (6, vI (odS mu (nI (10 + i)) cup 9))]) dX8_cord_90 rfl (by rfl) (by exact nI_1 (10 + i)) (by decide) (by rfl) (by rfl) ?_
                refine o_goto (tgt := 54) dX8_cord_93 (by decide) ?_
                refine o_pick (L' := [(0, vC 0), (1, vI cup), (2, vI what), (3, vI (nI (10 + i))), (4, vI (odS mu (nI (10 + i)) cup 9)), (5, vI (nI (10 + (i + 1))))]) [0, 1, 2, 3, 4, 5] (by rfl) ?_
                have es : bst (coF mu cup) coG 10 (i + 1) = (nI (10 + i), odS mu (nI (10 + i)) cup 9) := by show (if coF mu cup i ≤ (bst (coF mu cup) coG 10 i).2 then bst (coF mu cup) coG 10 i else (coG i, coF mu cup i)) = _; rw [show coF mu cup i = odS mu (nI (10 + i)) cup 9 from rfl, if_neg c80]; try rfl
                have hI := ihLP54 (i + 1) mE (by omega) hF2 (by omega)
                rw [es] at hI
                exact hI
        exact LP54 52 0 _ (by omega) (fun _ _ _ => rfl) (by omega)
      · skip
        have b32 := (if10 h3).2 c32
        refine o_bipush (v := (-2)) dX8_cord_35 rfl (by decide) ?_
        exact o_iret hq dX8_cord_37 (Or.inr (Or.inl ⟨by simp [b11, b20, b32], of_decide_eq_true b32, rfl, rfl⟩))
    · skip
      have b20 := (if10 h2).1 c20
      refine o_iconst (v := (-1)) dX8_cord_23 rfl (by decide) ?_
      exact o_iret hq dX8_cord_24 (Or.inl ⟨by simp [b11, b20], rfl, rfl⟩)
