/-! ===== the face: what its calls share ===== -/
theorem con_wk {y : MethodName} {yc : ByteArray} {n d : Nat} {ret : Option FieldType} {As : List AV} {mu : Mu} {R S : Int32 → Mu → Prop} (h : Con y yc n ret d As mu R) (hw : ∀ r m, R r m → S r m) : Con y yc n ret d As mu S := by
  intro l D h0 cA sz t0 t1
  intro p e a1 a2 a3 s m args below f1 f2 f3 f4
  obtain ⟨k, oc, b1, b2, b3, b4, b5⟩ := h l D h0 cA sz t0 t1 p e a1 a2 a3 s m args below f1 f2 f3 f4
  obtain ⟨⟨r, u, q1, q2, q3⟩, q4⟩ := b4
  exact ⟨k, oc, b1, b2, b3, ⟨⟨r, u, q1, hw _ _ q2, q3⟩, q4⟩, b5⟩
def inB (v l m : Int32) : Bool := decide (¬ v < l ∧ ¬ m < v)
def hasB (mu : Mu) (k : Nat) (row : Int32) : Bool := decide (¬ row < 0 ∧ ¬ mu k 2 ≤ row)
theorem inB_t {v l m : Int32} (h : inB v l m = true) : ¬ v < l ∧ ¬ m < v := of_decide_eq_true h
theorem hasB_t {mu : Mu} {k : Nat} {row : Int32} (h : hasB mu k row = true) : ¬ row < 0 ∧ ¬ mu k 2 ≤ row := of_decide_eq_true h
theorem c_has (k n c : Nat) (hT : isTab k n c) (mu : Mu) (row : Int32) : Con yX6_has cX6_has 2 (some .boolean) 0 [vC k, vI row] mu (fun r mu2 => mu2 = mu ∧ r = if hasB mu k row = true then 1 else 0) :=
  con_wk (c_X6_has k n c hT mu row) (fun r m h => ⟨h.1, by rw [h.2]; unfold hasB; simp only [decide_eq_true_eq]⟩)
def fullB (mu : Mu) (k n : Nat) : Bool := decide (¬ mu k 2 < nI n)
theorem c_isFull (k n c : Nat) (hT : isTab k n c) (mu : Mu) : Con yX6_isFull cX6_isFull 1 (some .boolean) 0 [vC k] mu (fun r mu2 => mu2 = mu ∧ r = if fullB mu k n = true then 1 else 0) :=
  con_wk (c_X6_isFull k n c hT mu) (fun r m h => ⟨h.1, by rw [h.2]; unfold fullB; by_cases e : mu k 2 < nI n <;> simp [e]⟩)
set_option maxHeartbeats 4000000 in
set_option maxRecDepth 100000 in
theorem c_isIn (mu : Mu) (v l m : Int32) : Con yX8_isIn cX8_isIn 3 (some .boolean) 0 [vI v, vI l, vI m] mu (fun r mu2 => mu2 = mu ∧ r = if inB v l m = true then 1 else 0) := by
  refine con_of (own := RX8) (by decide) rfl (Nat.le_of_ble_eq_true rfl) (fun X g hq => ?_)
  show WA X g RX8 3 cX8_isIn 0 [(0, vI v), (1, vI l), (2, vI m)] [] mu
  refine o_iload_n dX8_isIn_0 rfl rfl (by rfl) ?_
  refine o_iload_n dX8_isIn_1 rfl rfl (by rfl) ?_
  refine o_icmp_lt (tgt := 14) dX8_isIn_2 (by decide) rfl (fun (c2 : v < l) => ?_) (fun (c2 : ¬ v < l) => ?_)
  · skip
    refine o_iconst (v := 0) dX8_isIn_14 rfl (by decide) ?_
    exact o_zret hq dX8_isIn_15 (Or.inl rfl) ⟨rfl, by simp [inB, c2]⟩
  · skip
    refine o_iload_n dX8_isIn_5 rfl rfl (by rfl) ?_
    refine o_iload_n dX8_isIn_6 rfl rfl (by rfl) ?_
    refine o_icmp_gt (tgt := 14) dX8_isIn_7 (by decide) rfl (fun (c7 : m < v) => ?_) (fun (c7 : ¬ m < v) => ?_)
    · skip
      refine o_iconst (v := 0) dX8_isIn_14 rfl (by decide) ?_
      exact o_zret hq dX8_isIn_15 (Or.inl rfl) ⟨rfl, by simp [inB, c2, c7]⟩
    · skip
      refine o_iconst (v := 1) dX8_isIn_10 rfl (by decide) ?_
      refine o_goto (tgt := 15) dX8_isIn_11 (by decide) ?_
      exact o_zret hq dX8_isIn_15 (Or.inr rfl) ⟨rfl, by simp [inB, c2, c7]⟩
set_option maxHeartbeats 4000000 in
set_option maxRecDepth 100000 in
theorem c_noPart (mu : Mu) : Con yX4_hasNoPart cX4_hasNoPart 1 (some .boolean) 0 [vC 1] mu (fun r mu2 => mu2 = mu ∧ r = if decide (mu 9 2 = 0) = true then 1 else 0) := by
  refine con_of (own := RX4) (by decide) rfl (Nat.le_of_ble_eq_true rfl) (fun X g hq => ?_)
  show WA X g RX4 1 cX4_hasNoPart 0 [(0, vC 1)] [] mu
  refine o_aload_n dX4_hasNoPart_0 rfl rfl (by rfl) ?_
  refine o_getC (q := 9) cl_X4_32 dX4_hasNoPart_1 rfl (by decide) (by rfl) (by rfl) ?_
  refine o_getI cl_X4_38 dX4_hasNoPart_4 rfl (by decide) (by rfl) (by rfl) ?_
  refine o_if_ne (tgt := 14) dX4_hasNoPart_7 (by decide) rfl (fun (c7 : ¬ (mu 9 2) = 0) => ?_) (fun (c7 : (mu 9 2) = 0) => ?_)
  · skip
    refine o_iconst (v := 0) dX4_hasNoPart_14 rfl (by decide) ?_
    exact o_zret hq dX4_hasNoPart_15 (Or.inl rfl) ⟨rfl, by simp [c7]⟩
  · skip
    refine o_iconst (v := 1) dX4_hasNoPart_10 rfl (by decide) ?_
    refine o_goto (tgt := 15) dX4_hasNoPart_11 (by decide) ?_
    exact o_zret hq dX4_hasNoPart_15 (Or.inr rfl) ⟨rfl, by simp [c7]⟩
def stS (mu : Mu) : Nat → Int32
  | 0 => 0
  | i + 1 => stS mu i + mu (11 + i) 0
set_option maxHeartbeats 4000000 in
set_option maxRecDepth 100000 in
theorem c_X4_pullSteps (mu : Mu) (hS : SOK mu 1) (z : Nat) (ez : mu 9 2 = nI z) (hz : z ≤ 6) : Con yX4_pullSteps cX4_pullSteps 3 (some .int) 1 [vC 1] mu (fun r mu2 => mu2 = mu ∧ r = stS mu z) := by
  refine con_of (own := RX4) (by decide) rfl (Nat.le_of_ble_eq_true rfl) (fun X g hq => ?_)
  show WA X g RX4 3 cX4_pullSteps 0 [(0, vC 1)] [] mu
  refine o_iconst (v := 0) dX4_pullSteps_0 rfl (by decide) ?_
  refine o_istore_n (L' := [(0, vC 1), (1, vI 0)]) dX4_pullSteps_1 rfl rfl (by decide) (by rfl) (by rfl) ?_
  refine o_iconst (v := 0) dX4_pullSteps_2 rfl (by decide) ?_
  refine o_istore_n (L' := [(0, vC 1), (1, vI 0), (2, vI 0)]) dX4_pullSteps_3 rfl rfl (by decide) (by rfl) (by rfl) ?_
  have LP4 : ∀ (nLP4 : Nat) (i : Nat) , (i ≤ z) → (z < i + nLP4) → WA X g RX4 3 cX4_pullSteps 4 [(0, vC 1), (1, vI (stS mu i)), (2, vI (nI i))] [] mu := by
    intro nLP4
    induction nLP4 with
    | zero =>
      intro i hi hm
      exact absurd hm (by omega)
    | succ nLP4 ihLP4 =>
      intro i hi hm
      refine o_iload_n dX4_pullSteps_4 rfl rfl (by rfl) ?_
      refine o_aload_n dX4_pullSteps_5 rfl rfl (by rfl) ?_
      refine o_getC (q := 9) cl_X4_32 dX4_pullSteps_6 rfl (by decide) (by rfl) (by rfl) ?_
      refine o_getI cl_X4_38 dX4_pullSteps_9 rfl (by decide) (by rfl) (by rfl) ?_
      refine o_icmp_ge (tgt := 33) dX4_pullSteps_12 (by decide) rfl (fun (c12 : (mu 9 2) ≤ (nI i)) => ?_) (fun (c12 : ¬ (mu 9 2) ≤ (nI i)) => ?_)
      · skip
        rw [ez] at c12
        have hzi := nI_dec2 c12 (by omega) (by omega)
        have e2 : i = z := by omega
        refine o_iload_n dX4_pullSteps_33 rfl rfl (by rfl) ?_
        exact o_iret hq dX4_pullSteps_34 ⟨rfl, by rw [e2]⟩
      · skip
        rw [ez] at c12
        have hiz := nI_dec c12 (by omega) (by omega)
        refine o_iload_n dX4_pullSteps_15 rfl rfl (by rfl) ?_
        refine o_aload_n dX4_pullSteps_16 rfl rfl (by rfl) ?_
        refine o_getC (q := 9) cl_X4_32 dX4_pullSteps_17 rfl (by decide) (by rfl) (by rfl) ?_
        refine o_iload_n dX4_pullSteps_20 rfl rfl (by rfl) ?_
        refine o_iconst (v := 0) dX4_pullSteps_21 rfl (by decide) ?_
        refine o_callV cs_X6_get cv_X4_42 (c_X6_get 9 6 3 tab9 _ hS.t9 (nI i) 0) hq.2.2.2 (Nat.le_of_ble_eq_true rfl) dX4_pullSteps_22 rfl (by decide) (by rfl) (by rfl) (by rfl) rfl rfl (Nat.le_of_ble_eq_true rfl) (fun r1 mu1 h1 => ?_)
        obtain ⟨em, h1⟩ := h1
        rw [em]
        have h1 := h1.trans (tget_in (j := 0) ez hS.t9.1 hiz (by omega) (by omega) (by omega))
        subst h1
        refine o_iadd dX4_pullSteps_25 rfl ?_
        refine o_istore_n (L' := [(0, vC 1), (1, vI ((stS mu i) + (mu (9 + 2 + i) 0))), (2, vI (nI i))]) dX4_pullSteps_26 rfl rfl (by decide) (by rfl) (by rfl) ?_
        refine o_iinc (v := nI (i + 1)) (L' := [(0, vC 1), (1, vI ((stS mu i) + (mu (9 + 2 + i) 0))), (2, vI (nI (i + 1)))]) dX4_pullSteps_27 rfl (by rfl) (by exact nI_1 i) (by decide) (by rfl) (by rfl) ?_
        refine o_goto (tgt := 4) dX4_pullSteps_30 (by decide) ?_
        exact ihLP4 (i + 1) (by omega) (by omega)
  exact LP4 (z + 1) 0 (by omega) (by omega)
def SC (mu mu2 : Mu) (b c z1 z2 z3 : Nat) : Prop := (∀ q, (q < b ∨ b + 26 ≤ q) → mu2 q = mu q) ∧ (∀ j, j < 3 → mu2 (b + 1) j = mu (c + 1) j) ∧ (mu2 (b + 2) 2 = nI z1 ∧ mu2 (b + 2) 1 = nI 5 ∧ ∀ i j, i < z1 → j < 5 → mu2 (b + 4 + i) j = mu (c + 4 + i) j) ∧ (mu2 (b + 8) 2 = nI z2 ∧ mu2 (b + 8) 1 = nI 3 ∧ ∀ i j, i < z2 → j < 3 → mu2 (b + 10 + i) j = mu (c + 10 + i) j) ∧ (mu2 (b + 16) 2 = nI z3 ∧ mu2 (b + 16) 1 = nI 4 ∧ ∀ i j, i < z3 → j < 4 → mu2 (b + 18 + i) j = mu (c + 18 + i) j)
theorem sc_fin {mu m0 m1 m2 m3 : Mu} {b c z1 z2 z3 : Nat} (hx : b + 26 ≤ c ∨ c + 26 ≤ b) (l1 : z1 ≤ 4) (l2 : z2 ≤ 6) (l3 : z3 ≤ 8) (h0 : (∀ q, q ≠ b + 1 → m0 q = mu q) ∧ ∀ j, j < 3 → m0 (b + 1) j = mu (c + 1) j) (h1 : CP m0 m1 (b + 2) (c + 2) 4 5 z1 z1 0) (h2 : CP m1 m2 (b + 8) (c + 8) 6 3 z2 z2 0) (h3 : CP m2 m3 (b + 16) (c + 16) 8 4 z3 z3 0) : SC mu m3 b c z1 z2 z3 := by
  obtain ⟨a1, a2, a3, a4, -⟩ := h1
  obtain ⟨b1, b2, b3, b4, -⟩ := h2
  obtain ⟨c1, c2, c3, c4, -⟩ := h3
  refine ⟨fun q hq => by rw [c3 q (by omega), b3 q (by omega), a3 q (by omega), h0.1 q (by omega)], fun j hj => by rw [c3 _ (by omega), b3 _ (by omega), a3 _ (by omega)]; exact h0.2 j hj, ⟨by rw [c3 _ (by omega), b3 _ (by omega)]; exact a1, by rw [c3 _ (by omega), b3 _ (by omega)]; exact a2, fun i j hi hj => ?_⟩, ⟨by rw [c3 _ (by omega)]; exact b1, by rw [c3 _ (by omega)]; exact b2, fun i j hi hj => ?_⟩, ⟨c1, c2, fun i j hi hj => ?_⟩⟩
  · rw [c3 _ (by omega), b3 _ (by omega), show b + 4 + i = b + 2 + 2 + i by omega, a4 i j hi hj, h0.1 _ (by omega)]
  · rw [c3 _ (by omega), show b + 10 + i = b + 8 + 2 + i by omega, b4 i j hi hj, a3 _ (by omega), h0.1 _ (by omega), show c + 8 + 2 + i = c + 10 + i by omega]
  · rw [show b + 18 + i = b + 16 + 2 + i by omega, c4 i j hi hj, b3 _ (by omega), a3 _ (by omega), h0.1 _ (by omega), show c + 16 + 2 + i = c + 18 + i by omega]
theorem sc_ok {mu m : Mu} {b c z1 z2 z3 : Nat} (h : SC mu m b c z1 z2 z3) (hS : SOK mu c) (e1 : mu (c + 2) 2 = nI z1) (e2 : mu (c + 8) 2 = nI z2) (e3 : mu (c + 16) 2 = nI z3) (l1 : z1 ≤ 4) (l2 : z2 ≤ 6) (l3 : z3 ≤ 8) : SOK m b := by
  obtain ⟨-, h1, ⟨a1, a2, a3⟩, ⟨b1, b2, b3⟩, ⟨c1, c2, c3⟩⟩ := h
  obtain ⟨s1, ⟨y1, p1, p2, p3, p4⟩, ⟨y2, q1, q2, q3, q4⟩, ⟨y3, r1, r2, r3, r4⟩⟩ := hS
  have f1 : y1 = z1 := (nI_eq (by omega) (by omega)).mp (p3.symm.trans e1)
  have f2 : y2 = z2 := (nI_eq (by omega) (by omega)).mp (q3.symm.trans e2)
  have f3 : y3 = z3 := (nI_eq (by omega) (by omega)).mp (r3.symm.trans e3)
  subst f1 f2 f3
  refine ⟨by rw [h1 0 (by decide), h1 1 (by decide), h1 2 (by decide)]; exact s1, ⟨y1, p1, a2, a1, fun i hi => ?_⟩, ⟨y2, q1, b2, b1, fun i hi => ?_⟩, ⟨y3, r1, c2, c1, fun i hi => ?_⟩⟩
  · rw [a3 i 0 hi (by decide), a3 i 1 hi (by decide), a3 i 2 hi (by decide), a3 i 3 hi (by decide), a3 i 4 hi (by decide)]; exact p4 i hi
  · rw [b3 i 0 hi (by decide), b3 i 1 hi (by decide), b3 i 2 hi (by decide)]; exact q4 i hi
  · rw [c3 i 0 hi (by decide), c3 i 1 hi (by decide), c3 i 2 hi (by decide), c3 i 3 hi (by decide)]; exact r4 i hi
set_option maxHeartbeats 4000000 in
set_option maxRecDepth 100000 in
theorem c_takeAll_27_1 (mu : Mu) (z1 z2 z3 : Nat) (hz1 : z1 ≤ 4) (hz2 : z2 ≤ 6) (hz3 : z3 ≤ 8) (hd1 : mu 29 1 = nI 5) (hd2 : mu 35 1 = nI 3) (hd3 : mu 43 1 = nI 4) (hs1 : mu 3 1 = nI 5) (hs2 : mu 9 1 = nI 3) (hs3 : mu 17 1 = nI 4) (ez1 : mu 3 2 = nI z1) (ez2 : mu 9 2 = nI z2) (ez3 : mu 17 2 = nI z3) : ConV yX4_takeAll cX4_takeAll 3 2 [vC 27, vC 1] mu (fun mu2 => SC mu mu2 27 1 z1 z2 z3) := by
  refine conV_of (own := RX4) (by decide) rfl (Nat.le_of_ble_eq_true rfl) (fun X g hq => ?_)
  show WA X g RX4 3 cX4_takeAll 0 [(0, vC 27), (1, vC 1)] [] mu
  refine o_iconst (v := 0) dX4_takeAll_0 rfl (by decide) ?_
  refine o_istore_n (L' := [(0, vC 27), (1, vC 1), (2, vI 0)]) dX4_takeAll_1 rfl rfl (by decide) (by rfl) (by rfl) ?_
  refine o_iload_n dX4_takeAll_2 rfl rfl (by rfl) ?_
  refine o_iconst (v := 2) dX4_takeAll_3 rfl (by decide) ?_
  refine o_icmp_gt (tgt := 25) dX4_takeAll_4 (by decide) rfl (fun (c4 : 2 < (0 : Int32)) => ?_) (fun (c4 : ¬ 2 < (0 : Int32)) => ?_)
  · skip
    exact absurd c4 (by decide)
  · skip
    refine o_aload_n dX4_takeAll_7 rfl rfl (by rfl) ?_
    refine o_getC (q := 28) cl_X4_18 dX4_takeAll_8 rfl (by decide) (by rfl) (by rfl) ?_
    refine o_iload_n dX4_takeAll_11 rfl rfl (by rfl) ?_
    refine o_aload_n dX4_takeAll_12 rfl rfl (by rfl) ?_
    refine o_getC (q := 2) cl_X4_18 dX4_takeAll_13 rfl (by decide) (by rfl) (by rfl) ?_
    refine o_iload_n dX4_takeAll_16 rfl rfl (by rfl) ?_
    refine o_iald dX4_takeAll_17 rfl (by decide) (by rfl) (by rfl) (vp_in_nI (n := 0) (by decide) (by decide)) ?_
    refine o_iast dX4_takeAll_18 rfl (by decide) (by rfl) (by rfl) (vp_in_nI (n := 0) (by decide) (by decide)) ?_
    refine o_iinc (v := 1) (L' := [(0, vC 27), (1, vC 1), (2, vI 1)]) dX4_takeAll_19 rfl (by rfl) (by decide) (by decide) (by rfl) (by rfl) ?_
    refine o_goto (tgt := 2) dX4_takeAll_22 (by decide) ?_
    refine o_iload_n dX4_takeAll_2 rfl rfl (by rfl) ?_
    refine o_iconst (v := 2) dX4_takeAll_3 rfl (by decide) ?_
    refine o_icmp_gt (tgt := 25) dX4_takeAll_4 (by decide) rfl (fun (c4 : 2 < (1 : Int32)) => ?_) (fun (c4 : ¬ 2 < (1 : Int32)) => ?_)
    · skip
      exact absurd c4 (by decide)
    · skip
      refine o_aload_n dX4_takeAll_7 rfl rfl (by rfl) ?_
      refine o_getC (q := 28) cl_X4_18 dX4_takeAll_8 rfl (by decide) (by rfl) (by rfl) ?_
      refine o_iload_n dX4_takeAll_11 rfl rfl (by rfl) ?_
      refine o_aload_n dX4_takeAll_12 rfl rfl (by rfl) ?_
      refine o_getC (q := 2) cl_X4_18 dX4_takeAll_13 rfl (by decide) (by rfl) (by rfl) ?_
      refine o_iload_n dX4_takeAll_16 rfl rfl (by rfl) ?_
      refine o_iald dX4_takeAll_17 rfl (by decide) (by rfl) (by rfl) (vp_in_nI (n := 1) (by decide) (by decide)) ?_
      refine o_iast dX4_takeAll_18 rfl (by decide) (by rfl) (by rfl) (vp_in_nI (n := 1) (by decide) (by decide)) ?_
      refine o_iinc (v := 2) (L' := [(0, vC 27), (1, vC 1), (2, vI 2)]) dX4_takeAll_19 rfl (by rfl) (by decide) (by decide) (by rfl) (by rfl) ?_
      refine o_goto (tgt := 2) dX4_takeAll_22 (by decide) ?_
      refine o_iload_n dX4_takeAll_2 rfl rfl (by rfl) ?_
      refine o_iconst (v := 2) dX4_takeAll_3 rfl (by decide) ?_
      refine o_icmp_gt (tgt := 25) dX4_takeAll_4 (by decide) rfl (fun (c4 : 2 < (2 : Int32)) => ?_) (fun (c4 : ¬ 2 < (2 : Int32)) => ?_)
      · skip
        exact absurd c4 (by decide)
      · skip
        refine o_aload_n dX4_takeAll_7 rfl rfl (by rfl) ?_
        refine o_getC (q := 28) cl_X4_18 dX4_takeAll_8 rfl (by decide) (by rfl) (by rfl) ?_
        refine o_iload_n dX4_takeAll_11 rfl rfl (by rfl) ?_
        refine o_aload_n dX4_takeAll_12 rfl rfl (by rfl) ?_
        refine o_getC (q := 2) cl_X4_18 dX4_takeAll_13 rfl (by decide) (by rfl) (by rfl) ?_
        refine o_iload_n dX4_takeAll_16 rfl rfl (by rfl) ?_
        refine o_iald dX4_takeAll_17 rfl (by decide) (by rfl) (by rfl) (vp_in_nI (n := 2) (by decide) (by decide)) ?_
        refine o_iast dX4_takeAll_18 rfl (by decide) (by rfl) (by rfl) (vp_in_nI (n := 2) (by decide) (by decide)) ?_
        refine o_iinc (v := 3) (L' := [(0, vC 27), (1, vC 1), (2, vI 3)]) dX4_takeAll_19 rfl (by rfl) (by decide) (by decide) (by rfl) (by rfl) ?_
        refine o_goto (tgt := 2) dX4_takeAll_22 (by decide) ?_
        refine o_iload_n dX4_takeAll_2 rfl rfl (by rfl) ?_
        refine o_iconst (v := 2) dX4_takeAll_3 rfl (by decide) ?_
        refine o_icmp_gt (tgt := 25) dX4_takeAll_4 (by decide) rfl (fun (c4 : 2 < (3 : Int32)) => ?_) (fun (c4 : ¬ 2 < (3 : Int32)) => ?_)
        · skip
          refine o_aload_n dX4_takeAll_25 rfl rfl (by rfl) ?_
          refine o_getC (q := 29) cl_X4_28 dX4_takeAll_26 rfl (by decide) (by rfl) (by rfl) ?_
          refine o_aload_n dX4_takeAll_29 rfl rfl (by rfl) ?_
          refine o_getC (q := 3) cl_X4_28 dX4_takeAll_30 rfl (by decide) (by rfl) (by rfl) ?_
          refine o_callVV cs_X6_takeAll cv_X4_46 (c_X6_takeAll 29 3 4 5 z1 tab29 tab3 (by decide) _ hd1 hs1 hz1 ez1) hq.2.2.2 (Nat.le_of_ble_eq_true rfl) dX4_takeAll_33 rfl (by decide) (by rfl) (by rfl) (by rfl) rfl rfl (Nat.le_of_ble_eq_true rfl) (fun m1 h1 => ?_)
          refine o_aload_n dX4_takeAll_36 rfl rfl (by rfl) ?_
          refine o_getC (q := 35) cl_X4_32 dX4_takeAll_37 rfl (by decide) (by rfl) (by rfl) ?_
          refine o_aload_n dX4_takeAll_40 rfl rfl (by rfl) ?_
          refine o_getC (q := 9) cl_X4_32 dX4_takeAll_41 rfl (by decide) (by rfl) (by rfl) ?_
          refine o_callVV cs_X6_takeAll cv_X4_46 (c_X6_takeAll 35 9 6 3 z2 tab35 tab9 (by decide) _ (by rw [h1.2.2.1 35 (by decide)]; exact hd2) (by rw [h1.2.2.1 9 (by decide)]; exact hs2) hz2 (by rw [h1.2.2.1 9 (by decide)]; exact ez2)) hq.2.2.2 (Nat.le_of_ble_eq_true rfl) dX4_takeAll_44 rfl (by decide) (by rfl) (by rfl) (by rfl) rfl rfl (Nat.le_of_ble_eq_true rfl) (fun m2 h2 => ?_)
          refine o_aload_n dX4_takeAll_47 rfl rfl (by rfl) ?_
          refine o_getC (q := 43) cl_X4_35 dX4_takeAll_48 rfl (by decide) (by rfl) (by rfl) ?_
          refine o_aload_n dX4_takeAll_51 rfl rfl (by rfl) ?_
          refine o_getC (q := 17) cl_X4_35 dX4_takeAll_52 rfl (by decide) (by rfl) (by rfl) ?_
          refine o_callVV cs_X6_takeAll cv_X4_46 (c_X6_takeAll 43 17 8 4 z3 tab43 tab17 (by decide) _ (by rw [h2.2.2.1 43 (by decide), h1.2.2.1 43 (by decide)]; exact hd3) (by rw [h2.2.2.1 17 (by decide), h1.2.2.1 17 (by decide)]; exact hs3) hz3 (by rw [h2.2.2.1 17 (by decide), h1.2.2.1 17 (by decide)]; exact ez3)) hq.2.2.2 (Nat.le_of_ble_eq_true rfl) dX4_takeAll_55 rfl (by decide) (by rfl) (by rfl) (by rfl) rfl rfl (Nat.le_of_ble_eq_true rfl) (fun m3 h3 => ?_)
          exact o_vret hq dX4_takeAll_58 (sc_fin (by decide) hz1 hz2 hz3 ⟨fun q hq => by simp [upF, upM, hq], fun j hj => by match j, hj with | 0, _ => rfl | 1, _ => rfl | 2, _ => rfl⟩ h1 h2 h3)
        · skip
          exact absurd (by decide) c4
set_option maxHeartbeats 4000000 in
set_option maxRecDepth 100000 in
theorem c_takeAll_1_27 (mu : Mu) (z1 z2 z3 : Nat) (hz1 : z1 ≤ 4) (hz2 : z2 ≤ 6) (hz3 : z3 ≤ 8) (hd1 : mu 3 1 = nI 5) (hd2 : mu 9 1 = nI 3) (hd3 : mu 17 1 = nI 4) (hs1 : mu 29 1 = nI 5) (hs2 : mu 35 1 = nI 3) (hs3 : mu 43 1 = nI 4) (ez1 : mu 29 2 = nI z1) (ez2 : mu 35 2 = nI z2) (ez3 : mu 43 2 = nI z3) : ConV yX4_takeAll cX4_takeAll 3 2 [vC 1, vC 27] mu (fun mu2 => SC mu mu2 1 27 z1 z2 z3) := by
  refine conV_of (own := RX4) (by decide) rfl (Nat.le_of_ble_eq_true rfl) (fun X g hq => ?_)
  show WA X g RX4 3 cX4_takeAll 0 [(0, vC 1), (1, vC 27)] [] mu
  refine o_iconst (v := 0) dX4_takeAll_0 rfl (by decide) ?_
  refine o_istore_n (L' := [(0, vC 1), (1, vC 27), (2, vI 0)]) dX4_takeAll_1 rfl rfl (by decide) (by rfl) (by rfl) ?_
  refine o_iload_n dX4_takeAll_2 rfl rfl (by rfl) ?_
  refine o_iconst (v := 2) dX4_takeAll_3 rfl (by decide) ?_
  refine o_icmp_gt (tgt := 25) dX4_takeAll_4 (by decide) rfl (fun (c4 : 2 < (0 : Int32)) => ?_) (fun (c4 : ¬ 2 < (0 : Int32)) => ?_)
  · skip
    exact absurd c4 (by decide)
  · skip
    refine o_aload_n dX4_takeAll_7 rfl rfl (by rfl) ?_
    refine o_getC (q := 2) cl_X4_18 dX4_takeAll_8 rfl (by decide) (by rfl) (by rfl) ?_
    refine o_iload_n dX4_takeAll_11 rfl rfl (by rfl) ?_
    refine o_aload_n dX4_takeAll_12 rfl rfl (by rfl) ?_
    refine o_getC (q := 28) cl_X4_18 dX4_takeAll_13 rfl (by decide) (by rfl) (by rfl) ?_
    refine o_iload_n dX4_takeAll_16 rfl rfl (by rfl) ?_
    refine o_iald dX4_takeAll_17 rfl (by decide) (by rfl) (by rfl) (vp_in_nI (n := 0) (by decide) (by decide)) ?_
    refine o_iast dX4_takeAll_18 rfl (by decide) (by rfl) (by rfl) (vp_in_nI (n := 0) (by decide) (by decide)) ?_
    refine o_iinc (v := 1) (L' := [(0, vC 1), (1, vC 27), (2, vI 1)]) dX4_takeAll_19 rfl (by rfl) (by decide) (by decide) (by rfl) (by rfl) ?_
    refine o_goto (tgt := 2) dX4_takeAll_22 (by decide) ?_
    refine o_iload_n dX4_takeAll_2 rfl rfl (by rfl) ?_
    refine o_iconst (v := 2) dX4_takeAll_3 rfl (by decide) ?_
    refine o_icmp_gt (tgt := 25) dX4_takeAll_4 (by decide) rfl (fun (c4 : 2 < (1 : Int32)) => ?_) (fun (c4 : ¬ 2 < (1 : Int32)) => ?_)
    · skip
      exact absurd c4 (by decide)
    · skip
      refine o_aload_n dX4_takeAll_7 rfl rfl (by rfl) ?_
      refine o_getC (q := 2) cl_X4_18 dX4_takeAll_8 rfl (by decide) (by rfl) (by rfl) ?_
      refine o_iload_n dX4_takeAll_11 rfl rfl (by rfl) ?_
      refine o_aload_n dX4_takeAll_12 rfl rfl (by rfl) ?_
      refine o_getC (q := 28) cl_X4_18 dX4_takeAll_13 rfl (by decide) (by rfl) (by rfl) ?_
      refine o_iload_n dX4_takeAll_16 rfl rfl (by rfl) ?_
      refine o_iald dX4_takeAll_17 rfl (by decide) (by rfl) (by rfl) (vp_in_nI (n := 1) (by decide) (by decide)) ?_
      refine o_iast dX4_takeAll_18 rfl (by decide) (by rfl) (by rfl) (vp_in_nI (n := 1) (by decide) (by decide)) ?_
      refine o_iinc (v := 2) (L' := [(0, vC 1), (1, vC 27), (2, vI 2)]) dX4_takeAll_19 rfl (by rfl) (by decide) (by decide) (by rfl) (by rfl) ?_
      refine o_goto (tgt := 2) dX4_takeAll_22 (by decide) ?_
      refine o_iload_n dX4_takeAll_2 rfl rfl (by rfl) ?_
      refine o_iconst (v := 2) dX4_takeAll_3 rfl (by decide) ?_
      refine o_icmp_gt (tgt := 25) dX4_takeAll_4 (by decide) rfl (fun (c4 : 2 < (2 : Int32)) => ?_) (fun (c4 : ¬ 2 < (2 : Int32)) => ?_)
      · skip
        exact absurd c4 (by decide)
      · skip
        refine o_aload_n dX4_takeAll_7 rfl rfl (by rfl) ?_
        refine o_getC (q := 2) cl_X4_18 dX4_takeAll_8 rfl (by decide) (by rfl) (by rfl) ?_
        refine o_iload_n dX4_takeAll_11 rfl rfl (by rfl) ?_
        refine o_aload_n dX4_takeAll_12 rfl rfl (by rfl) ?_
        refine o_getC (q := 28) cl_X4_18 dX4_takeAll_13 rfl (by decide) (by rfl) (by rfl) ?_
        refine o_iload_n dX4_takeAll_16 rfl rfl (by rfl) ?_
        refine o_iald dX4_takeAll_17 rfl (by decide) (by rfl) (by rfl) (vp_in_nI (n := 2) (by decide) (by decide)) ?_
        refine o_iast dX4_takeAll_18 rfl (by decide) (by rfl) (by rfl) (vp_in_nI (n := 2) (by decide) (by decide)) ?_
        refine o_iinc (v := 3) (L' := [(0, vC 1), (1, vC 27), (2, vI 3)]) dX4_takeAll_19 rfl (by rfl) (by decide) (by decide) (by rfl) (by rfl) ?_
        refine o_goto (tgt := 2) dX4_takeAll_22 (by decide) ?_
        refine o_iload_n dX4_takeAll_2 rfl rfl (by rfl) ?_
        refine o_iconst (v := 2) dX4_takeAll_3 rfl (by decide) ?_
        refine o_icmp_gt (tgt := 25) dX4_takeAll_4 (by decide) rfl (fun (c4 : 2 < (3 : Int32)) => ?_) (fun (c4 : ¬ 2 < (3 : Int32)) => ?_)
        · skip
          refine o_aload_n dX4_takeAll_25 rfl rfl (by rfl) ?_
          refine o_getC (q := 3) cl_X4_28 dX4_takeAll_26 rfl (by decide) (by rfl) (by rfl) ?_
          refine o_aload_n dX4_takeAll_29 rfl rfl (by rfl) ?_
          refine o_getC (q := 29) cl_X4_28 dX4_takeAll_30 rfl (by decide) (by rfl) (by rfl) ?_
          refine o_callVV cs_X6_takeAll cv_X4_46 (c_X6_takeAll 3 29 4 5 z1 tab3 tab29 (by decide) _ hd1 hs1 hz1 ez1) hq.2.2.2 (Nat.le_of_ble_eq_true rfl) dX4_takeAll_33 rfl (by decide) (by rfl) (by rfl) (by rfl) rfl rfl (Nat.le_of_ble_eq_true rfl) (fun m1 h1 => ?_)
          refine o_aload_n dX4_takeAll_36 rfl rfl (by rfl) ?_
          refine o_getC (q := 9) cl_X4_32 dX4_takeAll_37 rfl (by decide) (by rfl) (by rfl) ?_
          refine o_aload_n dX4_takeAll_40 rfl rfl (by rfl) ?_
          refine o_getC (q := 35) cl_X4_32 dX4_takeAll_41 rfl (by decide) (by rfl) (by rfl) ?_
          refine o_callVV cs_X6_takeAll cv_X4_46 (c_X6_takeAll 9 35 6 3 z2 tab9 tab35 (by decide) _ (by rw [h1.2.2.1 9 (by decide)]; exact hd2) (by rw [h1.2.2.1 35 (by decide)]; exact hs2) hz2 (by rw [h1.2.2.1 35 (by decide)]; exact ez2)) hq.2.2.2 (Nat.le_of_ble_eq_true rfl) dX4_takeAll_44 rfl (by decide) (by rfl) (by rfl) (by rfl) rfl rfl (Nat.le_of_ble_eq_true rfl) (fun m2 h2 => ?_)
          refine o_aload_n dX4_takeAll_47 rfl rfl (by rfl) ?_
          refine o_getC (q := 17) cl_X4_35 dX4_takeAll_48 rfl (by decide) (by rfl) (by rfl) ?_
          refine o_aload_n dX4_takeAll_51 rfl rfl (by rfl) ?_
          refine o_getC (q := 43) cl_X4_35 dX4_takeAll_52 rfl (by decide) (by rfl) (by rfl) ?_
          refine o_callVV cs_X6_takeAll cv_X4_46 (c_X6_takeAll 17 43 8 4 z3 tab17 tab43 (by decide) _ (by rw [h2.2.2.1 17 (by decide), h1.2.2.1 17 (by decide)]; exact hd3) (by rw [h2.2.2.1 43 (by decide), h1.2.2.1 43 (by decide)]; exact hs3) hz3 (by rw [h2.2.2.1 43 (by decide), h1.2.2.1 43 (by decide)]; exact ez3)) hq.2.2.2 (Nat.le_of_ble_eq_true rfl) dX4_takeAll_55 rfl (by decide) (by rfl) (by rfl) (by rfl) rfl rfl (Nat.le_of_ble_eq_true rfl) (fun m3 h3 => ?_)
          exact o_vret hq dX4_takeAll_58 (sc_fin (by decide) hz1 hz2 hz3 ⟨fun q hq => by simp [upF, upM, hq], fun j hj => by match j, hj with | 0, _ => rfl | 1, _ => rfl | 2, _ => rfl⟩ h1 h2 h3)
        · skip
          exact absurd (by decide) c4
/-- a table that got one more row -/
def AR (mu m : Mu) (k c z : Nat) (vals : Vc) (t : Nat) : Prop := m k 2 = nI (z + 1) ∧ m k 1 = nI c ∧ (∀ q, q ≠ k → q ≠ k + 2 + z → m q = mu q) ∧ ∀ j, j < t → m (k + 2 + z) j = vals j
theorem AR.start {mu m : Mu} {k c z n : Nat} {vals : Vc} {r : Int32} (hc : mu k 1 = nI c) (ez : mu k 2 = nI z) (hz : z < n) (hn : n ≤ 8) (h : (mu k 2 < nI n ∧ m = upF mu k 2 (mu k 2 + 1) ∧ r = mu k 2) ∨ (¬ mu k 2 < nI n ∧ m = mu ∧ r = -3)) : AR mu m k c z vals 0 ∧ r = nI z := by
  rcases h with ⟨-, h1, h2⟩ | ⟨h1, -⟩
  · subst h1
    exact ⟨⟨by rw [upF_s, ez, nI_1], by rw [upF_i (by decide)]; exact hc, fun q q1 _ => upF_k q1, fun j h => by omega⟩, by rw [h2, ez]⟩
  · exact absurd (by rw [ez]; exact nI_lt hz (by omega)) h1
theorem AR.put {mu m m2 : Mu} {k c z t : Nat} {vals : Vc} (h : AR mu m k c z vals t) (ht : t < c) (hz : z ≤ 8) (hc : c ≤ 5) (h2 : m2 = tput m k (nI z) (nI t) (vals t)) : AR mu m2 k c z vals (t + 1) := by
  obtain ⟨a1, a2, a3, a4⟩ := h
  have e : m2 = upF m (k + 2 + z) t (vals t) := by
    rw [h2, tput, if_pos, nI_clamp (by omega), nI_clamp (by omega)]
    rw [a1, a2]
    exact ⟨⟨nI_pos (by omega), nI_ge (by omega) (by omega)⟩, nI_pos (by omega), nI_ge (by omega) (by omega)⟩
  subst e
  refine ⟨by rw [upF_k (by omega)]; exact a1, by rw [upF_k (by omega)]; exact a2, fun q q1 q2 => by rw [upF_k q2]; exact a3 q q1 q2, fun j hj => ?_⟩
  by_cases ej : j = t
  · subst ej
    rw [upF_s]
  · rw [upF_i ej]
    exact a4 j (by omega)
theorem AR.tok {mu m : Mu} {k c z t n : Nat} {vals : Vc} (h : AR mu m k c z vals t) (hz : z < n) : TOK m k n c := ⟨h.2.1, z + 1, by omega, h.1⟩
set_option maxHeartbeats 4000000 in
set_option maxRecDepth 100000 in
theorem c_X8_addCup (k : Nat) (hT : isTab k 4 5) (mu : Mu) (z : Nat) (hc : mu k 1 = nI 5) (ez : mu k 2 = nI z) (hz : z < 4) (x y wd0 worth spk : Int32) : Con yX8_addCup cX8_addCup 7 (some .int) 2 [vC k, vI x, vI y, vI wd0, vI worth, vI spk] mu (fun r mu2 => r = nI z ∧ AR mu mu2 k 5 z (fun j => if j = 0 then x else if j = 1 then y else if j = 2 then wd0 else if j = 3 then worth else spk) 5) := by
  refine con_of (own := RX8) (by decide) rfl (Nat.le_of_ble_eq_true rfl) (fun X g hq => ?_)
  show WA X g RX8 7 cX8_addCup 0 [(0, vC k), (1, vI x), (2, vI y), (3, vI wd0), (4, vI worth), (5, vI spk)] [] mu
  refine o_aload_n dX8_addCup_0 rfl rfl (by rfl) ?_
  refine o_callV cs_X6_grow cv_X8_234 (c_X6_grow k 4 5 hT _) hq.2.2.2 (Nat.le_of_ble_eq_true rfl) dX8_addCup_1 rfl hT.k hT.2.1 (by rfl) (by rfl) rfl rfl (Nat.le_of_ble_eq_true rfl) (fun rg m0 hg => ?_)
  obtain ⟨hA0, eg⟩ := AR.start (vals := (fun j => if j = 0 then x else if j = 1 then y else if j = 2 then wd0 else if j = 3 then worth else spk)) hc ez hz (by decide) hg
  subst eg
  refine o_istore (L' := [(0, vC k), (1, vI x), (2, vI y), (3, vI wd0), (4, vI worth), (5, vI spk), (6, vI (nI z))]) dX8_addCup_4 rfl (by decide) (by rfl) (by rfl) ?_
  refine o_aload_n dX8_addCup_6 rfl rfl (by rfl) ?_
  refine o_iload dX8_addCup_7 rfl (by rfl) ?_
  refine o_iconst (v := 0) dX8_addCup_9 rfl (by decide) ?_
  refine o_iload_n dX8_addCup_10 rfl rfl (by rfl) ?_
  refine o_callVV cs_X6_put cv_X8_237 (c_X6_put k 4 5 hT _ (hA0.tok hz) (nI z) 0 x) hq.2.2.2 (Nat.le_of_ble_eq_true rfl) dX8_addCup_11 rfl hT.k hT.2.1 (by rfl) (by rfl) rfl rfl (Nat.le_of_ble_eq_true rfl) (fun m1 hp0 => ?_)
  have hA1 := hA0.put (by decide) (by omega) (by decide) hp0
  refine o_aload_n dX8_addCup_14 rfl rfl (by rfl) ?_
  refine o_iload dX8_addCup_15 rfl (by rfl) ?_
  refine o_iconst (v := 1) dX8_addCup_17 rfl (by decide) ?_
  refine o_iload_n dX8_addCup_18 rfl rfl (by rfl) ?_
  refine o_callVV cs_X6_put cv_X8_237 (c_X6_put k 4 5 hT _ (hA1.tok hz) (nI z) 1 y) hq.2.2.2 (Nat.le_of_ble_eq_true rfl) dX8_addCup_19 rfl hT.k hT.2.1 (by rfl) (by rfl) rfl rfl (Nat.le_of_ble_eq_true rfl) (fun m2 hp1 => ?_)
  have hA2 := hA1.put (by decide) (by omega) (by decide) hp1
  refine o_aload_n dX8_addCup_22 rfl rfl (by rfl) ?_
  refine o_iload dX8_addCup_23 rfl (by rfl) ?_
  refine o_iconst (v := 2) dX8_addCup_25 rfl (by decide) ?_
  refine o_iload_n dX8_addCup_26 rfl rfl (by rfl) ?_
  refine o_callVV cs_X6_put cv_X8_237 (c_X6_put k 4 5 hT _ (hA2.tok hz) (nI z) 2 wd0) hq.2.2.2 (Nat.le_of_ble_eq_true rfl) dX8_addCup_27 rfl hT.k hT.2.1 (by rfl) (by rfl) rfl rfl (Nat.le_of_ble_eq_true rfl) (fun m3 hp2 => ?_)
  have hA3 := hA2.put (by decide) (by omega) (by decide) hp2
  refine o_aload_n dX8_addCup_30 rfl rfl (by rfl) ?_
  refine o_iload dX8_addCup_31 rfl (by rfl) ?_
  refine o_iconst (v := 3) dX8_addCup_33 rfl (by decide) ?_
  refine o_iload dX8_addCup_34 rfl (by rfl) ?_
  refine o_callVV cs_X6_put cv_X8_237 (c_X6_put k 4 5 hT _ (hA3.tok hz) (nI z) 3 worth) hq.2.2.2 (Nat.le_of_ble_eq_true rfl) dX8_addCup_36 rfl hT.k hT.2.1 (by rfl) (by rfl) rfl rfl (Nat.le_of_ble_eq_true rfl) (fun m4 hp3 => ?_)
  have hA4 := hA3.put (by decide) (by omega) (by decide) hp3
  refine o_aload_n dX8_addCup_39 rfl rfl (by rfl) ?_
  refine o_iload dX8_addCup_40 rfl (by rfl) ?_
  refine o_iconst (v := 4) dX8_addCup_42 rfl (by decide) ?_
  refine o_iload dX8_addCup_43 rfl (by rfl) ?_
  refine o_callVV cs_X6_put cv_X8_237 (c_X6_put k 4 5 hT _ (hA4.tok hz) (nI z) 4 spk) hq.2.2.2 (Nat.le_of_ble_eq_true rfl) dX8_addCup_45 rfl hT.k hT.2.1 (by rfl) (by rfl) rfl rfl (Nat.le_of_ble_eq_true rfl) (fun m5 hp4 => ?_)
  have hA5 := hA4.put (by decide) (by omega) (by decide) hp4
  refine o_iload dX8_addCup_48 rfl (by rfl) ?_
  exact o_iret hq dX8_addCup_50 ⟨rfl, hA5⟩
set_option maxHeartbeats 4000000 in
set_option maxRecDepth 100000 in
theorem c_X8_addPart (k : Nat) (hT : isTab k 6 3) (mu : Mu) (z : Nat) (hc : mu k 1 = nI 3) (ez : mu k 2 = nI z) (hz : z < 6) (stp u v : Int32) : Con yX8_addPart cX8_addPart 5 (some .int) 2 [vC k, vI stp, vI u, vI v] mu (fun r mu2 => r = nI z ∧ AR mu mu2 k 3 z (fun j => if j = 0 then stp else if j = 1 then u else v) 3) := by
  refine con_of (own := RX8) (by decide) rfl (Nat.le_of_ble_eq_true rfl) (fun X g hq => ?_)
  show WA X g RX8 5 cX8_addPart 0 [(0, vC k), (1, vI stp), (2, vI u), (3, vI v)] [] mu
  refine o_aload_n dX8_addPart_0 rfl rfl (by rfl) ?_
  refine o_callV cs_X6_grow cv_X8_234 (c_X6_grow k 6 3 hT _) hq.2.2.2 (Nat.le_of_ble_eq_true rfl) dX8_addPart_1 rfl hT.k hT.2.1 (by rfl) (by rfl) rfl rfl (Nat.le_of_ble_eq_true rfl) (fun rg m0 hg => ?_)
  obtain ⟨hA0, eg⟩ := AR.start (vals := (fun j => if j = 0 then stp else if j = 1 then u else v)) hc ez hz (by decide) hg
  subst eg
  refine o_istore (L' := [(0, vC k), (1, vI stp), (2, vI u), (3, vI v), (4, vI (nI z))]) dX8_addPart_4 rfl (by decide) (by rfl) (by rfl) ?_
  refine o_aload_n dX8_addPart_6 rfl rfl (by rfl) ?_
  refine o_iload dX8_addPart_7 rfl (by rfl) ?_
  refine o_iconst (v := 0) dX8_addPart_9 rfl (by decide) ?_
  refine o_iload_n dX8_addPart_10 rfl rfl (by rfl) ?_
  refine o_callVV cs_X6_put cv_X8_237 (c_X6_put k 6 3 hT _ (hA0.tok hz) (nI z) 0 stp) hq.2.2.2 (Nat.le_of_ble_eq_true rfl) dX8_addPart_11 rfl hT.k hT.2.1 (by rfl) (by rfl) rfl rfl (Nat.le_of_ble_eq_true rfl) (fun m1 hp0 => ?_)
  have hA1 := hA0.put (by decide) (by omega) (by decide) hp0
  refine o_aload_n dX8_addPart_14 rfl rfl (by rfl) ?_
  refine o_iload dX8_addPart_15 rfl (by rfl) ?_
  refine o_iconst (v := 1) dX8_addPart_17 rfl (by decide) ?_
  refine o_iload_n dX8_addPart_18 rfl rfl (by rfl) ?_
  refine o_callVV cs_X6_put cv_X8_237 (c_X6_put k 6 3 hT _ (hA1.tok hz) (nI z) 1 u) hq.2.2.2 (Nat.le_of_ble_eq_true rfl) dX8_addPart_19 rfl hT.k hT.2.1 (by rfl) (by rfl) rfl rfl (Nat.le_of_ble_eq_true rfl) (fun m2 hp1 => ?_)
  have hA2 := hA1.put (by decide) (by omega) (by decide) hp1
  refine o_aload_n dX8_addPart_22 rfl rfl (by rfl) ?_
  refine o_iload dX8_addPart_23 rfl (by rfl) ?_
  refine o_iconst (v := 2) dX8_addPart_25 rfl (by decide) ?_
  refine o_iload_n dX8_addPart_26 rfl rfl (by rfl) ?_
  refine o_callVV cs_X6_put cv_X8_237 (c_X6_put k 6 3 hT _ (hA2.tok hz) (nI z) 2 v) hq.2.2.2 (Nat.le_of_ble_eq_true rfl) dX8_addPart_27 rfl hT.k hT.2.1 (by rfl) (by rfl) rfl rfl (Nat.le_of_ble_eq_true rfl) (fun m3 hp2 => ?_)
  have hA3 := hA2.put (by decide) (by omega) (by decide) hp2
  refine o_iload dX8_addPart_30 rfl (by rfl) ?_
  exact o_iret hq dX8_addPart_32 ⟨rfl, hA3⟩
