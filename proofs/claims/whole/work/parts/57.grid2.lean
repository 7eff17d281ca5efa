/-! ===== Grid: all cells, rings, the middle ===== -/
def SKI (mu m : Mu) (B : Nat → Bool) (l : Nat → Nat) (p : Nat) : Prop := (∀ q, q ≠ 55 → q ≠ 57 → q ≠ 58 → m q = mu q) ∧ m 55 3 = nI (ccN B l p) ∧ m 55 4 = nI (mmN B l p) ∧ ∀ j, j < 90 → m 57 j = if snB B l p j = true then 1 else 0
theorem SKI.no {mu m m2 : Mu} {B : Nat → Bool} {l : Nat → Nat} {p : Nat} {r : Int32} (h : SKI mu m B l p) (h2 : r = nI (sz B l p) ∧ (∀ q, q ≠ 57 → q ≠ 58 → m2 q = m q) ∧ ∀ j, j < 90 → m2 57 j = if snB B l (p + 1) j = true then 1 else 0) (hr : r ≤ 0) : SKI mu m2 B l (p + 1) := by
  obtain ⟨a1, a2, a3, a4⟩ := h
  obtain ⟨b1, b2, b3⟩ := h2
  have hz : sz B l p = 0 := by
    have := sz_le B l p
    rw [b1] at hr
    have := nI_dec2 (a := 0) hr (by decide) (by omega)
    omega
  refine ⟨fun q q1 q2 q3 => (b2 q q2 q3).trans (a1 q q1 q2 q3), ?_, ?_, b3⟩
  · rw [b2 55 (by decide) (by decide), a2]
    show _ = nI (ccN B l p + (if 0 < sz B l p then 1 else 0))
    rw [hz]
    rfl
  · rw [b2 55 (by decide) (by decide), a3]
    show _ = nI (if mmN B l p < sz B l p then sz B l p else mmN B l p)
    rw [hz, if_neg (by omega)]
theorem SKI.yes {mu m m2 m3 : Mu} {B : Nat → Bool} {l : Nat → Nat} {p : Nat} {r : Int32} (h : SKI mu m B l p) (h2 : r = nI (sz B l p) ∧ (∀ q, q ≠ 57 → q ≠ 58 → m2 q = m q) ∧ ∀ j, j < 90 → m2 57 j = if snB B l (p + 1) j = true then 1 else 0) (hr : ¬ r ≤ 0) (h3 : m3 = upF (upF m2 55 3 (m2 55 3 + 1)) 55 4 (if m2 55 4 < r then r else m2 55 4)) : SKI mu m3 B l (p + 1) := by
  obtain ⟨a1, a2, a3, a4⟩ := h
  obtain ⟨b1, b2, b3⟩ := h2
  have hs := sz_le B l p
  have hm := mmN_le B l p
  have hz : 0 < sz B l p := by
    rw [b1] at hr
    exact nI_dec (a := 0) hr (by decide) (by omega)
  subst h3
  refine ⟨fun q q1 q2 q3 => by rw [upF_k q1, upF_k q1]; exact (b2 q q2 q3).trans (a1 q q1 q2 q3), ?_, ?_, fun j hj => by rw [upF_k (by decide), upF_k (by decide)]; exact b3 j hj⟩
  · rw [upF_i (by decide), upF_s, b2 55 (by decide) (by decide), a2, nI_1]
    show _ = nI (ccN B l p + (if 0 < sz B l p then 1 else 0))
    rw [if_pos hz]
  · rw [upF_s, b2 55 (by decide) (by decide), a3, b1]
    show _ = nI (if mmN B l p < sz B l p then sz B l p else mmN B l p)
    by_cases q : mmN B l p < sz B l p
    · rw [if_pos q, if_pos (nI_lt q (by omega))]
    · rw [if_neg q, if_neg (nI_nlt (by omega) (by omega))]
set_option maxHeartbeats 4000000 in
set_option maxRecDepth 100000 in
theorem c_X0_seekCells (mu : Mu) (cup : Int32) (l : Nat → Nat) (hl : Lab (fun j => FB (mu 56) cup j = true) l) : ConV yX0_seekCells cX0_seekCells 4 2 [vC 55, vI cup] mu (fun mu2 => SKI mu mu2 (FB (mu 56) cup) l 90) := by
  refine conV_of (own := RX0) (by decide) rfl (Nat.le_of_ble_eq_true rfl) (fun X g hq => ?_)
  show WA X g RX0 4 cX0_seekCells 0 [(0, vC 55), (1, vI cup)] [] mu
  refine o_aload_n dX0_seekCells_0 rfl rfl (by rfl) ?_
  refine o_iconst (v := 0) dX0_seekCells_1 rfl (by decide) ?_
  refine o_put cl_X0_33 cp_X0_3 dX0_seekCells_2 rfl (by decide) (by rfl) (by rfl) fitI ?_
  refine o_aload_n dX0_seekCells_5 rfl rfl (by rfl) ?_
  refine o_iconst (v := 0) dX0_seekCells_6 rfl (by decide) ?_
  refine o_put cl_X0_37 cp_X0_4 dX0_seekCells_7 rfl (by decide) (by rfl) (by rfl) fitI ?_
  refine o_iconst (v := 0) dX0_seekCells_10 rfl (by decide) ?_
  refine o_istore_n (L' := [(0, vC 55), (1, vI cup), (2, vI 0)]) dX0_seekCells_11 rfl rfl (by decide) (by rfl) (by rfl) ?_
  have LP12 : ∀ (nLP12 : Nat) (k : Nat) (m : Mu) , (k ≤ 90) → ((∀ q, q ≠ 55 → q ≠ 57 → m q = mu q) ∧ m 55 3 = 0 ∧ m 55 4 = 0) → (∀ j, j < k → m 57 j = 0) → (90 < k + nLP12) → WA X g RX0 4 cX0_seekCells 12 [(0, vC 55), (1, vI cup), (2, vI (nI k))] [] m := by
    intro nLP12
    induction nLP12 with
    | zero =>
      intro k m hk hF hZ hm
      exact absurd hm (by omega)
    | succ nLP12 ihLP12 =>
      intro k m hk hF hZ hm
      refine o_iload_n dX0_seekCells_12 rfl rfl (by rfl) ?_
      refine o_bipush (v := 90) dX0_seekCells_13 rfl (by decide) ?_
      refine o_icmp_ge (tgt := 31) dX0_seekCells_15 (by decide) rfl (fun (c15 : 90 ≤ (nI k)) => ?_) (fun (c15 : ¬ 90 ≤ (nI k)) => ?_)
      · skip
        have hk2 := nI_dec2 (b := 90) c15 (by omega) (by decide)
        refine o_iconst (v := 0) dX0_seekCells_31 rfl (by decide) ?_
        refine o_istore_n (L' := [(0, vC 55), (1, vI cup), (2, vI 0)]) dX0_seekCells_32 rfl rfl (by decide) (by rfl) (by rfl) ?_
        have LP33 : ∀ (nLP33 : Nat) (p : Nat) (m : Mu) , (p ≤ 90) → (SKI mu m (FB (mu 56) cup) l p) → (90 < p + nLP33) → WA X g RX0 4 cX0_seekCells 33 [(0, vC 55), (1, vI cup), (2, vI (nI p))] [] m := by
          intro nLP33
          induction nLP33 with
          | zero =>
            intro p m hp hK hm
            exact absurd hm (by omega)
          | succ nLP33 ihLP33 =>
            intro p m hp hK hm
            refine o_iload_n dX0_seekCells_33 rfl rfl (by rfl) ?_
            refine o_bipush (v := 90) dX0_seekCells_34 rfl (by decide) ?_
            refine o_icmp_ge (tgt := 78) dX0_seekCells_36 (by decide) rfl (fun (c36 : 90 ≤ (nI p)) => ?_) (fun (c36 : ¬ 90 ≤ (nI p)) => ?_)
            · skip
              have hp2 := nI_dec2 (b := 90) c36 (by omega) (by decide)
              have e2 : p = 90 := by omega
              rw [e2] at hK
              exact o_vret hq dX0_seekCells_78 hK
            · skip
              have hp2 := nI_dec (b := 90) c36 (by omega) (by decide)
              refine o_aload_n dX0_seekCells_39 rfl rfl (by rfl) ?_
              refine o_iload_n dX0_seekCells_40 rfl rfl (by rfl) ?_
              refine o_iload_n dX0_seekCells_41 rfl rfl (by rfl) ?_
              refine o_callV cs_X0_cellFrom cv_X0_40 (c_X0_cellFrom m cup l p (by omega) (by rw [hK.1 56 (by decide) (by decide) (by decide)]; exact hl) (by rw [hK.1 56 (by decide) (by decide) (by decide)]; exact hK.2.2.2)) hq.2.2.2 (Nat.le_of_ble_eq_true rfl) dX0_seekCells_42 rfl (by decide) (by rfl) (by rfl) (by rfl) rfl rfl (Nat.le_of_ble_eq_true rfl) (fun rC mC hC => ?_)
              rw [hK.1 56 (by decide) (by decide) (by decide)] at hC
              refine o_istore_n (L' := [(0, vC 55), (1, vI cup), (2, vI (nI p)), (3, vI rC)]) dX0_seekCells_45 rfl rfl (by decide) (by rfl) (by rfl) ?_
              refine o_iload_n dX0_seekCells_46 rfl rfl (by rfl) ?_
              refine o_if_le (tgt := 72) dX0_seekCells_47 (by decide) rfl (fun (c47 : rC ≤ 0) => ?_) (fun (c47 : ¬ rC ≤ 0) => ?_)
              · skip
                refine o_iinc (v := nI (p + 1)) (L' := [(0, vC 55), (1, vI cup), (2, vI (nI (p + 1))), (3, vI rC)]) dX0_seekCells_72 rfl (by rfl) (by exact nI_1 p) (by decide) (by rfl) (by rfl) ?_
                refine o_goto (tgt := 33) dX0_seekCells_75 (by decide) ?_
                refine o_pick (L' := [(0, vC 55), (1, vI cup), (2, vI (nI (p + 1)))]) [0, 1, 2] (by rfl) ?_
                exact ihLP33 (p + 1) _ (by omega) (hK.no hC c47) (by omega)
              · skip
                refine o_aload_n dX0_seekCells_50 rfl rfl (by rfl) ?_
                refine o_dup dX0_seekCells_51 rfl rfl ?_
                refine o_getI cl_X0_33 dX0_seekCells_52 rfl (by decide) (by rfl) (by rfl) ?_
                refine o_iconst (v := 1) dX0_seekCells_55 rfl (by decide) ?_
                refine o_iadd dX0_seekCells_56 rfl ?_
                refine o_put cl_X0_33 cp_X0_3 dX0_seekCells_57 rfl (by decide) (by rfl) (by rfl) fitI ?_
                refine o_aload_n dX0_seekCells_60 rfl rfl (by rfl) ?_
                refine o_aload_n dX0_seekCells_61 rfl rfl (by rfl) ?_
                refine o_getI cl_X0_37 dX0_seekCells_62 rfl (by decide) (by rfl) (by rfl) ?_
                refine o_iload_n dX0_seekCells_65 rfl rfl (by rfl) ?_
                refine o_mmax (d := 1) mt_X0_44 hq.2.2.2 dX0_seekCells_66 rfl (Nat.le_of_ble_eq_true rfl) ?_
                refine o_put cl_X0_37 cp_X0_4 dX0_seekCells_69 rfl (by decide) (by rfl) (by rfl) fitI ?_
                refine o_iinc (v := nI (p + 1)) (L' := [(0, vC 55), (1, vI cup), (2, vI (nI (p + 1))), (3, vI rC)]) dX0_seekCells_72 rfl (by rfl) (by exact nI_1 p) (by decide) (by rfl) (by rfl) ?_
                refine o_goto (tgt := 33) dX0_seekCells_75 (by decide) ?_
                refine o_pick (L' := [(0, vC 55), (1, vI cup), (2, vI (nI (p + 1)))]) [0, 1, 2] (by rfl) ?_
                exact ihLP33 (p + 1) _ (by omega) (hK.yes hC c47 rfl) (by omega)
        exact LP33 91 0 _ (by omega) ⟨fun q a b _ => hF.1 q a b, hF.2.1, hF.2.2, fun j hj => by rw [hZ j (by omega), if_neg (fun h => by have := (snB_i.mp h).2; omega)]⟩ (by omega)
      · skip
        have hk2 := nI_dec (b := 90) c15 (by omega) (by decide)
        refine o_aload_n dX0_seekCells_18 rfl rfl (by rfl) ?_
        refine o_getC (q := 57) cl_X0_13 dX0_seekCells_19 rfl (by decide) (by rfl) (by rfl) ?_
        refine o_iload_n dX0_seekCells_22 rfl rfl (by rfl) ?_
        refine o_iconst (v := 0) dX0_seekCells_23 rfl (by decide) ?_
        refine o_zast dX0_seekCells_24 rfl (by decide) (by rfl) (by rfl) (vp_in_nI hk2 (by decide)) (Or.inl rfl) ?_
        refine o_iinc (v := nI (k + 1)) (L' := [(0, vC 55), (1, vI cup), (2, vI (nI (k + 1)))]) dX0_seekCells_25 rfl (by rfl) (by exact nI_1 k) (by decide) (by rfl) (by rfl) ?_
        refine o_goto (tgt := 12) dX0_seekCells_28 (by decide) ?_
        exact ihLP12 (k + 1) _ (by omega) ⟨fun q a b => by rw [upF_k b]; exact hF.1 q a b, by rw [upF_k (by decide)]; exact hF.2.1, by rw [upF_k (by decide)]; exact hF.2.2⟩ (fun j hj => by rw [nI_clamp (by omega)]; by_cases e : j = k; rw [e, upF_s]; rw [upF_i e]; exact hZ j (by omega)) (by omega)
  exact LP12 91 0 _ (by omega) ⟨fun q a b => by rw [upF_k a, upF_k a], by rw [upF_i (by decide), upF_s], upF_s⟩ (fun j h => by omega) (by omega)
/-- the square of r rings round (u, v) is whole -/
def whB (f : Vc) (cup : Int32) (u v r : Nat) : Bool := decide ((r ≤ u ∧ u + r < 9 ∧ r ≤ v ∧ v + r < 10) ∧ ∀ a, a < 2 * r + 1 → ∀ b, b < 2 * r + 1 → f (10 * (u - r + a) + (v - r + b)) = cup)
theorem wh_c1 : ∀ U, U < 9 → ∀ r, r < 6 → (((-4 : Int32) + nI U - nI r < -4 ↔ U < r) ∧ ((4 : Int32) < (-4) + nI U + nI r ↔ 9 ≤ U + r)) := by decide +kernel
theorem wh_c2 : ∀ V, V < 10 → ∀ r, r < 6 → ((0 + nI V - nI r < (0 : Int32) ↔ V < r) ∧ (0 + nI V + nI r ≤ (9 : Int32) ↔ V + r < 10)) := by decide +kernel
theorem wh_s1 : ∀ U, U < 9 → ∀ r, r < 6 → r ≤ U → (-4 : Int32) + nI U - nI r = (-4) + nI (U - r + 0) := by decide +kernel
theorem wh_s2 : ∀ V, V < 10 → ∀ r, r < 6 → r ≤ V → (0 : Int32) + nI V - nI r = 0 + nI (V - r + 0) := by decide +kernel
theorem wh_l1 {U r x : Nat} (h1 : U < 9) (h2 : r < 6) (h3 : x < 30) : ((-4 : Int32) + nI U + nI r < (-4) + nI x ↔ U + r < x) := by
  have key : ∀ s, s < 15 → ∀ x, x < 30 → ((-4 : Int32) + nI s < (-4) + nI x ↔ s < x) := by decide +kernel
  rw [Int32.add_assoc, nI_add]
  exact key (U + r) (by omega) x h3
theorem wh_l2 {U r x : Nat} (h1 : U < 10) (h2 : r < 6) (h3 : x < 30) : ((0 : Int32) + nI U + nI r < 0 + nI x ↔ U + r < x) := by
  rw [Int32.zero_add, Int32.zero_add, nI_add]
  exact nI_ltI (by omega) (by omega)
theorem wh_ix (A B : Nat) : ((-4 : Int32) + nI A - (-4)) * 10 + (0 + nI B) - 0 = nI (10 * A + B) := by
  rw [Int32.add_comm (-4) (nI A), Int32.add_sub_cancel, Int32.zero_add, Int32.sub_zero, show (10 : Int32) = nI 10 from rfl, pk_mul, nI_add, Nat.mul_comm]
theorem wh_up (x : Int32) (A : Nat) : x + nI A + Int32.ofInt 1 = x + nI (A + 1) := by rw [Int32.add_assoc, ← nI_1]; rfl
theorem whB_no {f : Vc} {cup : Int32} {u v r : Nat} (h : ¬ (r ≤ u ∧ u + r < 9 ∧ r ≤ v ∧ v + r < 10)) : ¬ whB f cup u v r = true := fun h9 => h (of_decide_eq_true h9).1
theorem whB_n2 {f : Vc} {cup : Int32} {u v r a b : Nat} (ha : a < 2 * r + 1) (hb : b < 2 * r + 1) (h : ¬ f (10 * (u - r + a) + (v - r + b)) = cup) : ¬ whB f cup u v r = true := fun h9 => h ((of_decide_eq_true h9).2 a ha b hb)
set_option maxHeartbeats 4000000 in
set_option maxRecDepth 100000 in
theorem c_X0_isWhole (mu : Mu) (U V r : Nat) (cup : Int32) (hU : U < 9) (hV : V < 10) (hr : r < 6) : Con yX0_isWhole cX0_isWhole 7 (some .boolean) 0 [vC 55, vI ((-4) + nI U), vI (0 + nI V), vI (nI r), vI cup] mu (fun x mu2 => mu2 = mu ∧ x = if whB (mu 56) cup U V r = true then 1 else 0) := by
  refine con_of (own := RX0) (by decide) rfl (Nat.le_of_ble_eq_true rfl) (fun X g hq => ?_)
  show WA X g RX0 7 cX0_isWhole 0 [(0, vC 55), (1, vI ((-4) + nI U)), (2, vI (0 + nI V)), (3, vI (nI r)), (4, vI cup)] [] mu
  refine o_iload_n dX0_isWhole_0 rfl rfl (by rfl) ?_
  refine o_iload_n dX0_isWhole_1 rfl rfl (by rfl) ?_
  refine o_isub dX0_isWhole_2 rfl ?_
  refine o_bipush (v := (-4)) dX0_isWhole_3 rfl (by decide) ?_
  refine o_icmp_lt (tgt := 29) dX0_isWhole_5 (by decide) rfl (fun (c5 : (((-4) + nI U) - (nI r)) < ((-4))) => ?_) (fun (c5 : ¬ (((-4) + nI U) - (nI r)) < ((-4))) => ?_)
  · skip
    have hn := (wh_c1 U hU r hr).1.mp c5
    refine o_iconst (v := 0) dX0_isWhole_29 rfl (by decide) ?_
    exact o_zret hq dX0_isWhole_30 (Or.inl rfl) ⟨rfl, (if_neg (whB_no (by omega))).symm⟩
  · skip
    have g1 : r ≤ U := Nat.not_lt.mp (fun h => c5 ((wh_c1 U hU r hr).1.mpr h))
    refine o_iload_n dX0_isWhole_8 rfl rfl (by rfl) ?_
    refine o_iload_n dX0_isWhole_9 rfl rfl (by rfl) ?_
    refine o_iadd dX0_isWhole_10 rfl ?_
    refine o_iconst (v := 4) dX0_isWhole_11 rfl (by decide) ?_
    refine o_icmp_gt (tgt := 29) dX0_isWhole_12 (by decide) rfl (fun (c12 : 4 < (((-4) + nI U) + (nI r))) => ?_) (fun (c12 : ¬ 4 < (((-4) + nI U) + (nI r))) => ?_)
    · skip
      have hn := (wh_c1 U hU r hr).2.mp c12
      refine o_iconst (v := 0) dX0_isWhole_29 rfl (by decide) ?_
      exact o_zret hq dX0_isWhole_30 (Or.inl rfl) ⟨rfl, (if_neg (whB_no (by omega))).symm⟩
    · skip
      have g2 : U + r < 9 := Nat.not_le.mp (fun h => c12 ((wh_c1 U hU r hr).2.mpr h))
      refine o_iload_n dX0_isWhole_15 rfl rfl (by rfl) ?_
      refine o_iload_n dX0_isWhole_16 rfl rfl (by rfl) ?_
      refine o_isub dX0_isWhole_17 rfl ?_
      refine o_if_lt (tgt := 29) dX0_isWhole_18 (by decide) rfl (fun (c18 : ((0 + nI V) - (nI r)) < 0) => ?_) (fun (c18 : ¬ ((0 + nI V) - (nI r)) < 0) => ?_)
      · skip
        have hn := (wh_c2 V hV r hr).1.mp c18
        refine o_iconst (v := 0) dX0_isWhole_29 rfl (by decide) ?_
        exact o_zret hq dX0_isWhole_30 (Or.inl rfl) ⟨rfl, (if_neg (whB_no (by omega))).symm⟩
      · skip
        have g3 : r ≤ V := Nat.not_lt.mp (fun h => c18 ((wh_c2 V hV r hr).1.mpr h))
        refine o_iload_n dX0_isWhole_21 rfl rfl (by rfl) ?_
        refine o_iload_n dX0_isWhole_22 rfl rfl (by rfl) ?_
        refine o_iadd dX0_isWhole_23 rfl ?_
        refine o_bipush (v := 9) dX0_isWhole_24 rfl (by decide) ?_
        refine o_icmp_le (tgt := 31) dX0_isWhole_26 (by decide) rfl (fun (c26 : ((0 + nI V) + (nI r)) ≤ 9) => ?_) (fun (c26 : ¬ ((0 + nI V) + (nI r)) ≤ 9) => ?_)
        · skip
          have g4 := (wh_c2 V hV r hr).2.mp c26
          refine o_iload_n dX0_isWhole_31 rfl rfl (by rfl) ?_
          refine o_iload_n dX0_isWhole_32 rfl rfl (by rfl) ?_
          refine o_isub dX0_isWhole_33 rfl ?_
          refine o_istore (L' := [(0, vC 55), (1, vI ((-4) + nI U)), (2, vI (0 + nI V)), (3, vI (nI r)), (4, vI cup), (5, vI (((-4) + nI U) - (nI r)))]) dX0_isWhole_34 rfl (by decide) (by rfl) (by rfl) ?_
          have LP36 : ∀ (nLP36 : Nat) (a : Nat) , (a ≤ 2 * r + 1) → (∀ x, x < a → ∀ y, y < 2 * r + 1 → mu 56 (10 * (U - r + x) + (V - r + y)) = cup) → (2 * r + 1 < a + nLP36) → WA X g RX0 7 cX0_isWhole 36 [(0, vC 55), (1, vI ((-4) + nI U)), (2, vI (0 + nI V)), (3, vI (nI r)), (4, vI cup), (5, vI ((-4) + nI (U - r + a)))] [] mu := by
            intro nLP36
            induction nLP36 with
            | zero =>
              intro a ha hQ hm
              exact absurd hm (by omega)
            | succ nLP36 ihLP36 =>
              intro a ha hQ hm
              refine o_iload dX0_isWhole_36 rfl (by rfl) ?_
              refine o_iload_n dX0_isWhole_38 rfl rfl (by rfl) ?_
              refine o_iload_n dX0_isWhole_39 rfl rfl (by rfl) ?_
              refine o_iadd dX0_isWhole_40 rfl ?_
              refine o_icmp_gt (tgt := 94) dX0_isWhole_41 (by decide) rfl (fun (c41 : (((-4) + nI U) + (nI r)) < ((-4) + nI (U - r + a))) => ?_) (fun (c41 : ¬ (((-4) + nI U) + (nI r)) < ((-4) + nI (U - r + a))) => ?_)
              · skip
                have hA2 := (wh_l1 hU hr (by omega)).mp c41
                refine o_iconst (v := 1) dX0_isWhole_94 rfl (by decide) ?_
                exact o_zret hq dX0_isWhole_95 (Or.inr rfl) ⟨rfl, (if_pos (decide_eq_true ⟨⟨g1, g2, g3, g4⟩, fun x hx y hy => hQ x (by omega) y hy⟩)).symm⟩
              · skip
                have hA2 : ¬ U + r < U - r + a := fun h => c41 ((wh_l1 hU hr (by omega)).mpr h)
                refine o_iload_n dX0_isWhole_44 rfl rfl (by rfl) ?_
                refine o_iload_n dX0_isWhole_45 rfl rfl (by rfl) ?_
                refine o_isub dX0_isWhole_46 rfl ?_
                refine o_istore (L' := [(0, vC 55), (1, vI ((-4) + nI U)), (2, vI (0 + nI V)), (3, vI (nI r)), (4, vI cup), (5, vI ((-4) + nI (U - r + a))), (6, vI ((0 + nI V) - (nI r)))]) dX0_isWhole_47 rfl (by decide) (by rfl) (by rfl) ?_
                have LP49 : ∀ (nLP49 : Nat) (b : Nat) , (b ≤ 2 * r + 1) → (∀ y, y < b → mu 56 (10 * (U - r + a) + (V - r + y)) = cup) → (2 * r + 1 < b + nLP49) → WA X g RX0 7 cX0_isWhole 49 [(0, vC 55), (1, vI ((-4) + nI U)), (2, vI (0 + nI V)), (3, vI (nI r)), (4, vI cup), (5, vI ((-4) + nI (U - r + a))), (6, vI (0 + nI (V - r + b)))] [] mu := by
                  intro nLP49
                  induction nLP49 with
                  | zero =>
                    intro b hb hQ2 hm2
                    exact absurd hm2 (by omega)
                  | succ nLP49 ihLP49 =>
                    intro b hb hQ2 hm2
                    refine o_iload dX0_isWhole_49 rfl (by rfl) ?_
                    refine o_iload_n dX0_isWhole_51 rfl rfl (by rfl) ?_
                    refine o_iload_n dX0_isWhole_52 rfl rfl (by rfl) ?_
                    refine o_iadd dX0_isWhole_53 rfl ?_
                    refine o_icmp_gt (tgt := 88) dX0_isWhole_54 (by decide) rfl (fun (c54 : ((0 + nI V) + (nI r)) < (0 + nI (V - r + b))) => ?_) (fun (c54 : ¬ ((0 + nI V) + (nI r)) < (0 + nI (V - r + b))) => ?_)
                    · skip
                      have hB2 := (wh_l2 hV hr (by omega)).mp c54
                      refine o_iinc (v := (-4) + nI (U - r + (a + 1))) (L' := [(0, vC 55), (1, vI ((-4) + nI U)), (2, vI (0 + nI V)), (3, vI (nI r)), (4, vI cup), (5, vI ((-4) + nI (U - r + (a + 1)))), (6, vI (0 + nI (V - r + b)))]) dX0_isWhole_88 rfl (by rfl) (by exact wh_up (-4) (U - r + a)) (by decide) (by rfl) (by rfl) ?_
                      refine o_goto (tgt := 36) dX0_isWhole_91 (by decide) ?_
                      refine o_pick (L' := [(0, vC 55), (1, vI ((-4) + nI U)), (2, vI (0 + nI V)), (3, vI (nI r)), (4, vI cup), (5, vI ((-4) + nI (U - r + (a + 1))))]) [0, 1, 2, 3, 4, 5] (by rfl) ?_
                      exact ihLP36 (a + 1) (by omega) (fun x hx y hy => if e : x = a then (by rw [e]; exact hQ2 y (by omega)) else hQ x (by omega) y hy) (by omega)
                    · skip
                      have hB2 : ¬ V + r < V - r + b := fun h => c54 ((wh_l2 hV hr (by omega)).mpr h)
                      refine o_aload_n dX0_isWhole_57 rfl rfl (by rfl) ?_
                      refine o_getC (q := 56) cl_X0_9 dX0_isWhole_58 rfl (by decide) (by rfl) (by rfl) ?_
                      refine o_iload dX0_isWhole_61 rfl (by rfl) ?_
                      refine o_bipush (v := (-4)) dX0_isWhole_63 rfl (by decide) ?_
                      refine o_isub dX0_isWhole_65 rfl ?_
                      refine o_bipush (v := 10) dX0_isWhole_66 rfl (by decide) ?_
                      refine o_imul dX0_isWhole_68 rfl ?_
                      refine o_iload dX0_isWhole_69 rfl (by rfl) ?_
                      refine o_iadd dX0_isWhole_71 rfl ?_
                      refine o_iconst (v := 0) dX0_isWhole_72 rfl (by decide) ?_
                      refine o_isub dX0_isWhole_73 rfl ?_
                      rw [wh_ix (U - r + a) (V - r + b)]
                      refine o_iald dX0_isWhole_74 rfl (by decide) (by rfl) (by rfl) (vp_in_nI (by omega) (by decide)) ?_
                      rw [nI_clamp (show 10 * (U - r + a) + (V - r + b) < 2 ^ 31 by omega)]
                      refine o_iload dX0_isWhole_75 rfl (by rfl) ?_
                      refine o_icmp_eq (tgt := 82) dX0_isWhole_77 (by decide) rfl (fun (c77 : (mu 56 (10 * (U - r + a) + (V - r + b))) = cup) => ?_) (fun (c77 : ¬ (mu 56 (10 * (U - r + a) + (V - r + b))) = cup) => ?_)
                      · skip
                        refine o_iinc (v := 0 + nI (V - r + (b + 1))) (L' := [(0, vC 55), (1, vI ((-4) + nI U)), (2, vI (0 + nI V)), (3, vI (nI r)), (4, vI cup), (5, vI ((-4) + nI (U - r + a))), (6, vI (0 + nI (V - r + (b + 1))))]) dX0_isWhole_82 rfl (by rfl) (by exact wh_up 0 (V - r + b)) (by decide) (by rfl) (by rfl) ?_
                        refine o_goto (tgt := 49) dX0_isWhole_85 (by decide) ?_
                        exact ihLP49 (b + 1) (by omega) (fun y hy => if e : y = b then (by rw [e]; exact c77) else hQ2 y (by omega)) (by omega)
                      · skip
                        refine o_iconst (v := 0) dX0_isWhole_80 rfl (by decide) ?_
                        exact o_zret hq dX0_isWhole_81 (Or.inl rfl) ⟨rfl, (if_neg (whB_n2 (a := a) (b := b) (by omega) (by omega) c77)).symm⟩
                rw [wh_s2 V hV r hr g3]
                exact LP49 (2 * r + 2) 0 (by omega) (fun x h => by omega) (by omega)
          rw [wh_s1 U hU r hr g1]
          exact LP36 (2 * r + 2) 0 (by omega) (fun x h => by omega) (by omega)
        · skip
          have hn : ¬ V + r < 10 := fun h => c26 ((wh_c2 V hV r hr).2.mpr h)
          refine o_iconst (v := 0) dX0_isWhole_29 rfl (by decide) ?_
          exact o_zret hq dX0_isWhole_30 (Or.inl rfl) ⟨rfl, (if_neg (whB_no (by omega))).symm⟩
def rnF (W : Nat → Bool) : Nat → Nat → Nat
  | 0, t => t
  | n + 1, t => if W (t + 1) = true then rnF W n (t + 1) else t
def rnK (f : Vc) (cup : Int32) (k : Nat) : Nat := rnF (whB f cup (k / 10) (k % 10)) 4 0
theorem rnF_le (W : Nat → Bool) : ∀ (n t : Nat), rnF W n t ≤ t + n
  | 0, t => Nat.le_refl _
  | n + 1, t => by
    show (if W (t + 1) = true then rnF W n (t + 1) else t) ≤ t + (n + 1)
    have := rnF_le W n (t + 1)
    split <;> omega
theorem rnF_g {W : Nat → Bool} {t : Nat} (ht : t < 4) (h : W (t + 1) = true) : rnF W (4 - t) t = rnF W (4 - (t + 1)) (t + 1) := by
  rw [show 4 - t = (4 - (t + 1)) + 1 by omega]
  show (if W (t + 1) = true then _ else _) = _
  rw [if_pos h]
theorem rnF_s {W : Nat → Bool} {t : Nat} (h : t < 4 → ¬ W (t + 1) = true) : rnF W (4 - t) t = t := by
  by_cases q : t < 4
  · rw [show 4 - t = (4 - (t + 1)) + 1 by omega]
    show (if W (t + 1) = true then _ else t) = t
    rw [if_neg (h q)]
  · rw [show 4 - t = 0 by omega]
    rfl
/-- the middle: the first of those with most rings -/
def mdP (f : Vc) (cup : Int32) : Nat → Int32 × Int32
  | 0 => (-1, -1)
  | k + 1 => if f k = cup ∧ (mdP f cup k).2 < nI (rnK f cup k) then (nI k, nI (rnK f cup k)) else mdP f cup k
theorem mdP_or (f : Vc) (cup : Int32) : ∀ n, mdP f cup n = (-1, -1) ∨ ∃ b, b < n ∧ mdP f cup n = (nI b, nI (rnK f cup b)) ∧ f b = cup
  | 0 => Or.inl rfl
  | n + 1 => by
    by_cases q : f n = cup ∧ (mdP f cup n).2 < nI (rnK f cup n)
    · exact Or.inr ⟨n, by omega, if_pos q, q.1⟩
    · rcases mdP_or f cup n with h | ⟨b, h1, h2, h3⟩
      · exact Or.inl ((if_neg q).trans h)
      · exact Or.inr ⟨b, by omega, (if_neg q).trans h2, h3⟩
theorem mdP_cg {f g : Vc} {cup : Int32} (h : ∀ k, k < 90 → f k = g k) : (∀ k, k < 90 → rnK f cup k = rnK g cup k) ∧ ∀ n, n ≤ 90 → mdP f cup n = mdP g cup n := by
  have e1 : ∀ k, k < 90 → rnK f cup k = rnK g cup k := by
    intro k hk
    unfold rnK
    congr 1
    funext r
    unfold whB
    congr 1
    apply propext
    constructor
    · rintro ⟨a1, a2⟩
      exact ⟨a1, fun a ha b hb => by rw [← h _ (by omega)]; exact a2 a ha b hb⟩
    · rintro ⟨a1, a2⟩
      exact ⟨a1, fun a ha b hb => by rw [h _ (by omega)]; exact a2 a ha b hb⟩
  refine ⟨e1, fun n => ?_⟩
  induction n with
  | zero => intro _; rfl
  | succ n ih =>
    intro hn
    show (if f n = cup ∧ (mdP f cup n).2 < nI (rnK f cup n) then (nI n, nI (rnK f cup n)) else mdP f cup n) = (if g n = cup ∧ (mdP g cup n).2 < nI (rnK g cup n) then (nI n, nI (rnK g cup n)) else mdP g cup n)
    rw [ih (by omega), h n (by omega), e1 n (by omega)]
theorem FB_cg {f g : Vc} {cup : Int32} (h : ∀ k, k < 90 → f k = g k) : FB f cup = FB g cup := by
  funext j
  unfold FB
  congr 1
  apply propext
  constructor
  · rintro ⟨a, b⟩; exact ⟨a, by rw [← h j a]; exact b⟩
  · rintro ⟨a, b⟩; exact ⟨a, by rw [h j a]; exact b⟩
theorem cnt_cg {f g : Vc} {cup : Int32} : ∀ {n : Nat}, (∀ k, k < n → f k = g k) → cntE f cup n = cntE g cup n
  | 0, _ => rfl
  | n + 1, h => by
    show cntE f cup n + (if f n = cup then 1 else 0) = cntE g cup n + (if g n = cup then 1 else 0)
    rw [cnt_cg (n := n) (fun k hk => h k (by omega)), h n (by omega)]
set_option maxHeartbeats 4000000 in
set_option maxRecDepth 100000 in
theorem c_X0_ringsRound (mu : Mu) (k : Nat) (cup : Int32) (hk : k < 90) : Con yX0_ringsRound cX0_ringsRound 4 (some .int) 1 [vC 55, vI (nI k), vI cup] mu (fun x mu2 => mu2 = mu ∧ x = nI (rnK (mu 56) cup k)) := by
  refine con_of (own := RX0) (by decide) rfl (Nat.le_of_ble_eq_true rfl) (fun X g hq => ?_)
  show WA X g RX0 4 cX0_ringsRound 0 [(0, vC 55), (1, vI (nI k)), (2, vI cup)] [] mu
  refine o_iconst (v := 0) dX0_ringsRound_0 rfl (by decide) ?_
  refine o_istore_n (L' := [(0, vC 55), (1, vI (nI k)), (2, vI cup), (3, vI 0)]) dX0_ringsRound_1 rfl rfl (by decide) (by rfl) (by rfl) ?_
  have LP2 : ∀ (nLP2 : Nat) (t : Nat) , (t ≤ 4) → (rnF (whB (mu 56) cup (k / 10) (k % 10)) (4 - t) t = rnK (mu 56) cup k) → (4 < t + nLP2) → WA X g RX0 4 cX0_ringsRound 2 [(0, vC 55), (1, vI (nI k)), (2, vI cup), (3, vI (nI t))] [] mu := by
    intro nLP2
    induction nLP2 with
    | zero =>
      intro t ht hR hm
      exact absurd hm (by omega)
    | succ nLP2 ihLP2 =>
      intro t ht hR hm
      refine o_iload_n dX0_ringsRound_2 rfl rfl (by rfl) ?_
      refine o_iconst (v := 4) dX0_ringsRound_3 rfl (by decide) ?_
      refine o_icmp_ge (tgt := 32) dX0_ringsRound_4 (by decide) rfl (fun (c4 : 4 ≤ (nI t)) => ?_) (fun (c4 : ¬ 4 ≤ (nI t)) => ?_)
      · skip
        have ht2 := nI_dec2 (b := 4) c4 (by omega) (by decide)
        refine o_iload_n dX0_ringsRound_32 rfl rfl (by rfl) ?_
        exact o_iret hq dX0_ringsRound_33 ⟨rfl, by rw [← hR, rnF_s (fun _ => by omega)]⟩
      · skip
        have ht2 := nI_dec (b := 4) c4 (by omega) (by decide)
        refine o_aload_n dX0_ringsRound_7 rfl rfl (by rfl) ?_
        refine o_iload_n dX0_ringsRound_8 rfl rfl (by rfl) ?_
        refine o_callS cs_X0_uOf ct_X0_20 (c_X0_uOf _ k (by omega)) hq.2.2.2 (Nat.le_of_ble_eq_true rfl) dX0_ringsRound_9 rfl rfl rfl (Nat.le_of_ble_eq_true rfl) (fun ru mu1 hu => ?_)
        obtain ⟨em, hu⟩ := hu
        rw [em]
        subst hu
        refine o_iload_n dX0_ringsRound_12 rfl rfl (by rfl) ?_
        refine o_callS cs_X0_vOf ct_X0_24 (c_X0_vOf _ k (by omega)) hq.2.2.2 (Nat.le_of_ble_eq_true rfl) dX0_ringsRound_13 rfl rfl rfl (Nat.le_of_ble_eq_true rfl) (fun rv mu2 hv => ?_)
        obtain ⟨em, hv⟩ := hv
        rw [em]
        subst hv
        refine o_iload_n dX0_ringsRound_16 rfl rfl (by rfl) ?_
        refine o_iconst (v := 1) dX0_ringsRound_17 rfl (by decide) ?_
        refine o_iadd dX0_ringsRound_18 rfl ?_
        rw [nI_1]
        refine o_iload_n dX0_ringsRound_19 rfl rfl (by rfl) ?_
        refine o_callV cs_X0_isWhole cv_X0_55 (c_X0_isWhole _ (k / 10) (k % 10) (t + 1) cup (by omega) (by omega) (by omega)) hq.2.2.2 (Nat.le_of_ble_eq_true rfl) dX0_ringsRound_20 rfl (by decide) (by rfl) (by rfl) (by rfl) rfl rfl (Nat.le_of_ble_eq_true rfl) (fun rw0 mu3 hw => ?_)
        obtain ⟨em, hw⟩ := hw
        rw [em]
        refine o_if_eq (tgt := 32) dX0_ringsRound_23 (by decide) rfl (fun (c23 : rw0 = 0) => ?_) (fun (c23 : ¬ rw0 = 0) => ?_)
        · skip
          have b23 := (if10 hw).1 c23
          refine o_iload_n dX0_ringsRound_32 rfl rfl (by rfl) ?_
          exact o_iret hq dX0_ringsRound_33 ⟨rfl, by rw [← hR, rnF_s (fun _ => b23)]⟩
        · skip
          have b23 := (if10 hw).2 c23
          refine o_iinc (v := nI (t + 1)) (L' := [(0, vC 55), (1, vI (nI k)), (2, vI cup), (3, vI (nI (t + 1)))]) dX0_ringsRound_26 rfl (by rfl) (by exact nI_1 t) (by decide) (by rfl) (by rfl) ?_
          refine o_goto (tgt := 2) dX0_ringsRound_29 (by decide) ?_
          exact ihLP2 (t + 1) (by omega) ((rnF_g (by omega) b23).symm.trans hR) (by omega)
  exact LP2 5 0 (by omega) rfl (by omega)
set_option maxHeartbeats 4000000 in
set_option maxRecDepth 100000 in
theorem c_X0_middleOf (mu : Mu) (cup : Int32) : Con yX0_middleOf cX0_middleOf 5 (some .int) 2 [vC 55, vI cup] mu (fun x mu2 => mu2 = mu ∧ x = (mdP (mu 56) cup 90).1) := by
  refine con_of (own := RX0) (by decide) rfl (Nat.le_of_ble_eq_true rfl) (fun X g hq => ?_)
  show WA X g RX0 5 cX0_middleOf 0 [(0, vC 55), (1, vI cup)] [] mu
  refine o_iconst (v := (-1)) dX0_middleOf_0 rfl (by decide) ?_
  refine o_istore_n (L' := [(0, vC 55), (1, vI cup), (2, vI ((-1)))]) dX0_middleOf_1 rfl rfl (by decide) (by rfl) (by rfl) ?_
  refine o_iconst (v := (-1)) dX0_middleOf_2 rfl (by decide) ?_
  refine o_istore_n (L' := [(0, vC 55), (1, vI cup), (2, vI ((-1))), (3, vI ((-1)))]) dX0_middleOf_3 rfl rfl (by decide) (by rfl) (by rfl) ?_
  refine o_iconst (v := 0) dX0_middleOf_4 rfl (by decide) ?_
  refine o_istore (L' := [(0, vC 55), (1, vI cup), (2, vI ((-1))), (3, vI ((-1))), (4, vI 0)]) dX0_middleOf_5 rfl (by decide) (by rfl) (by rfl) ?_
  have LP7 : ∀ (nLP7 : Nat) (k : Nat) , (k ≤ 90) → (90 < k + nLP7) → WA X g RX0 5 cX0_middleOf 7 [(0, vC 55), (1, vI cup), (2, vI ((mdP (mu 56) cup k).1)), (3, vI ((mdP (mu 56) cup k).2)), (4, vI (nI k))] [] mu := by
    intro nLP7
    induction nLP7 with
    | zero =>
      intro k hk hm
      exact absurd hm (by omega)
    | succ nLP7 ihLP7 =>
      intro k hk hm
      refine o_iload dX0_middleOf_7 rfl (by rfl) ?_
      refine o_bipush (v := 90) dX0_middleOf_9 rfl (by decide) ?_
      refine o_icmp_ge (tgt := 53) dX0_middleOf_11 (by decide) rfl (fun (c11 : 90 ≤ (nI k)) => ?_) (fun (c11 : ¬ 90 ≤ (nI k)) => ?_)
      · skip
        have hk2 := nI_dec2 (b := 90) c11 (by omega) (by decide)
        have e2 : k = 90 := by omega
        refine o_iload_n dX0_middleOf_53 rfl rfl (by rfl) ?_
        exact o_iret hq dX0_middleOf_54 ⟨rfl, by rw [e2]⟩
      · skip
        have hk2 := nI_dec (b := 90) c11 (by omega) (by decide)
        refine o_aload_n dX0_middleOf_14 rfl rfl (by rfl) ?_
        refine o_getC (q := 56) cl_X0_9 dX0_middleOf_15 rfl (by decide) (by rfl) (by rfl) ?_
        refine o_iload dX0_middleOf_18 rfl (by rfl) ?_
        refine o_iald dX0_middleOf_20 rfl (by decide) (by rfl) (by rfl) (vp_in_nI hk2 (by decide)) ?_
        refine o_iload_n dX0_middleOf_21 rfl rfl (by rfl) ?_
        refine o_icmp_ne (tgt := 47) dX0_middleOf_22 (by decide) rfl (fun (c22 : ¬ (mu 56 (nI k).toNatClampNeg) = cup) => ?_) (fun (c22 : (mu 56 (nI k).toNatClampNeg) = cup) => ?_)
        · skip
          refine o_iinc (v := nI (k + 1)) (L' := [(0, vC 55), (1, vI cup), (2, vI ((mdP (mu 56) cup k).1)), (3, vI ((mdP (mu 56) cup k).2)), (4, vI (nI (k + 1)))]) dX0_middleOf_47 rfl (by rfl) (by exact nI_1 k) (by decide) (by rfl) (by rfl) ?_
          refine o_goto (tgt := 7) dX0_middleOf_50 (by decide) ?_
          have e9 : mdP (mu 56) cup (k + 1) = mdP (mu 56) cup k := if_neg (fun h => c22 (by rw [nI_clamp (by omega)]; exact h.1))
          have h9 := ihLP7 (k + 1) (by omega) (by omega)
          rw [e9] at h9
          exact h9
        · skip
          refine o_aload_n dX0_middleOf_25 rfl rfl (by rfl) ?_
          refine o_iload dX0_middleOf_26 rfl (by rfl) ?_
          refine o_iload_n dX0_middleOf_28 rfl rfl (by rfl) ?_
          refine o_callV cs_X0_ringsRound cv_X0_52 (c_X0_ringsRound _ k cup (by omega)) hq.2.2.2 (Nat.le_of_ble_eq_true rfl) dX0_middleOf_29 rfl (by decide) (by rfl) (by rfl) (by rfl) rfl rfl (Nat.le_of_ble_eq_true rfl) (fun rr mu1 hr9 => ?_)
          obtain ⟨em, hr9⟩ := hr9
          rw [em]
          subst hr9
          refine o_iload_n dX0_middleOf_32 rfl rfl (by rfl) ?_
          refine o_icmp_le (tgt := 47) dX0_middleOf_33 (by decide) rfl (fun (c33 : (nI (rnK (mu 56) cup k)) ≤ ((mdP (mu 56) cup k).2)) => ?_) (fun (c33 : ¬ (nI (rnK (mu 56) cup k)) ≤ ((mdP (mu 56) cup k).2)) => ?_)
          · skip
            refine o_iinc (v := nI (k + 1)) (L' := [(0, vC 55), (1, vI cup), (2, vI ((mdP (mu 56) cup k).1)), (3, vI ((mdP (mu 56) cup k).2)), (4, vI (nI (k + 1)))]) dX0_middleOf_47 rfl (by rfl) (by exact nI_1 k) (by decide) (by rfl) (by rfl) ?_
            refine o_goto (tgt := 7) dX0_middleOf_50 (by decide) ?_
            have e9 : mdP (mu 56) cup (k + 1) = mdP (mu 56) cup k := if_neg (fun h => absurd c33 (Int32.not_le.mpr h.2))
            have h9 := ihLP7 (k + 1) (by omega) (by omega)
            rw [e9] at h9
            exact h9
          · skip
            refine o_aload_n dX0_middleOf_36 rfl rfl (by rfl) ?_
            refine o_iload dX0_middleOf_37 rfl (by rfl) ?_
            refine o_iload_n dX0_middleOf_39 rfl rfl (by rfl) ?_
            refine o_callV cs_X0_ringsRound cv_X0_52 (c_X0_ringsRound _ k cup (by omega)) hq.2.2.2 (Nat.le_of_ble_eq_true rfl) dX0_middleOf_40 rfl (by decide) (by rfl) (by rfl) (by rfl) rfl rfl (Nat.le_of_ble_eq_true rfl) (fun rr mu2 hr9 => ?_)
            obtain ⟨em, hr9⟩ := hr9
            rw [em]
            subst hr9
            refine o_istore_n (L' := [(0, vC 55), (1, vI cup), (2, vI ((mdP (mu 56) cup k).1)), (3, vI (nI (rnK (mu 56) cup k))), (4, vI (nI k))]) dX0_middleOf_43 rfl rfl (by decide) (by rfl) (by rfl) ?_
            refine o_iload dX0_middleOf_44 rfl (by rfl) ?_
            refine o_istore_n (L' := [(0, vC 55), (1, vI cup), (2, vI (nI k)), (3, vI (nI (rnK (mu 56) cup k))), (4, vI (nI k))]) dX0_middleOf_46 rfl rfl (by decide) (by rfl) (by rfl) ?_
            refine o_iinc (v := nI (k + 1)) (L' := [(0, vC 55), (1, vI cup), (2, vI (nI k)), (3, vI (nI (rnK (mu 56) cup k))), (4, vI (nI (k + 1)))]) dX0_middleOf_47 rfl (by rfl) (by exact nI_1 k) (by decide) (by rfl) (by rfl) ?_
            refine o_goto (tgt := 7) dX0_middleOf_50 (by decide) ?_
            have e9 : mdP (mu 56) cup (k + 1) = (nI k, nI (rnK (mu 56) cup k)) := if_pos ⟨by rw [nI_clamp (by omega)] at c22; exact c22, Int32.not_le.mp c33⟩
            have h9 := ihLP7 (k + 1) (by omega) (by omega)
            rw [e9] at h9
            exact h9
  exact LP7 91 0 (by omega) (by omega)
