/-! ===== Table ===== -/
def isTab (k n c : Nat) : Prop := k + 2 + n ≤ NC ∧ sh k = .inl (6, [some (k + 1), none, none]) ∧ sh (k + 1) = .inr (.inr (n, k + 2)) ∧ aty (k + 1) = .array .int ∧ (∀ i, i < n → sh (k + 2 + i) = .inr (.inl c) ∧ aty (k + 2 + i) = .int) ∧ n ≤ 8 ∧ c ≤ 5
def TOK (mu : Mu) (k n c : Nat) : Prop := mu k 1 = nI c ∧ ∃ z, z ≤ n ∧ mu k 2 = nI z
def tin (mu : Mu) (k : Nat) (row col : Int32) : Prop := (¬ row < 0 ∧ ¬ mu k 2 ≤ row) ∧ (¬ col < 0 ∧ ¬ mu k 1 ≤ col)
theorem isTab.k {k n c : Nat} (h : isTab k n c) : k < NC := by have := h.1; omega
theorem isTab.k1 {k n c : Nat} (h : isTab k n c) : k + 1 < NC := by have := h.1; omega
theorem isTab.r {k n c i : Nat} (h : isTab k n c) (hi : i < n) : k + 2 + i < NC := by have := h.1; omega
theorem tin.row {mu : Mu} {k n c : Nat} {row : Int32} (hT : isTab k n c) (h : TOK mu k n c) (h0 : ¬ row < 0) (h1 : ¬ mu k 2 ≤ row) : vp_in row n := by
  obtain ⟨-, z, hz, e⟩ := h
  exact in_cmp h0 h1 e hz (by have := hT.2.2.2.2.2.1; omega)
theorem tin.col {mu : Mu} {k n c : Nat} {col : Int32} (hT : isTab k n c) (h : TOK mu k n c) (h0 : ¬ col < 0) (h1 : ¬ mu k 1 ≤ col) : vp_in col c := in_cmp h0 h1 h.1 (Nat.le_refl c) (by have := hT.2.2.2.2.2.2; omega)
/-- the cell's content, or 0 -/
def tget (mu : Mu) (k : Nat) (row col : Int32) : Int32 := if (¬ row < 0 ∧ ¬ mu k 2 ≤ row) ∧ (¬ col < 0 ∧ ¬ mu k 1 ≤ col) then mu (k + 2 + row.toNatClampNeg) col.toNatClampNeg else 0
set_option maxHeartbeats 4000000 in
set_option maxRecDepth 100000 in
theorem c_X6_isFull (k n c : Nat) (hT : isTab k n c) (mu : Mu) : Con yX6_isFull cX6_isFull 1 (some .boolean) 0 [vC k] mu (fun r mu2 => mu2 = mu ∧ r = if mu k 2 < nI n then 0 else 1) := by
  refine con_of (own := RX6) (by decide) rfl (Nat.le_of_ble_eq_true rfl) (fun X g hq => ?_)
  show WA X g RX6 1 cX6_isFull 0 [(0, vC k)] [] mu
  refine o_aload_n dX6_isFull_0 rfl rfl (by rfl) ?_
  refine o_getI cl_X6_26 dX6_isFull_1 rfl hT.k hT.2.1 (by rfl) ?_
  refine o_aload_n dX6_isFull_4 rfl rfl (by rfl) ?_
  refine o_getC (q := k+1) cl_X6_17 dX6_isFull_5 rfl hT.k hT.2.1 (by rfl) ?_
  refine o_alenQ (v := (nI n)) dX6_isFull_8 rfl hT.k1 hT.2.2.1 (by rfl) ?_
  refine o_icmp_lt (tgt := 16) dX6_isFull_9 (by decide) rfl (fun (c9 : (mu k 2) < ((nI n))) => ?_) (fun (c9 : ¬ (mu k 2) < ((nI n))) => ?_)
  · skip
    refine o_iconst (v := 0) dX6_isFull_16 rfl (by decide) ?_
    exact o_zret hq dX6_isFull_17 (Or.inl rfl) ⟨rfl, by simp [c9]⟩
  · skip
    refine o_iconst (v := 1) dX6_isFull_12 rfl (by decide) ?_
    refine o_goto (tgt := 17) dX6_isFull_13 (by decide) ?_
    exact o_zret hq dX6_isFull_17 (Or.inr rfl) ⟨rfl, by simp [c9]⟩
set_option maxHeartbeats 4000000 in
set_option maxRecDepth 100000 in
theorem c_X6_has (k n c : Nat) (hT : isTab k n c) (mu : Mu) (row : Int32) : Con yX6_has cX6_has 2 (some .boolean) 0 [vC k, vI row] mu (fun r mu2 => mu2 = mu ∧ r = if ¬ row < 0 ∧ ¬ mu k 2 ≤ row then 1 else 0) := by
  refine con_of (own := RX6) (by decide) rfl (Nat.le_of_ble_eq_true rfl) (fun X g hq => ?_)
  show WA X g RX6 2 cX6_has 0 [(0, vC k), (1, vI row)] [] mu
  refine o_iload_n dX6_has_0 rfl rfl (by rfl) ?_
  refine o_if_lt (tgt := 16) dX6_has_1 (by decide) rfl (fun (c1 : row < 0) => ?_) (fun (c1 : ¬ row < 0) => ?_)
  · skip
    refine o_iconst (v := 0) dX6_has_16 rfl (by decide) ?_
    exact o_zret hq dX6_has_17 (Or.inl rfl) ⟨rfl, by simp [c1]⟩
  · skip
    refine o_iload_n dX6_has_4 rfl rfl (by rfl) ?_
    refine o_aload_n dX6_has_5 rfl rfl (by rfl) ?_
    refine o_getI cl_X6_26 dX6_has_6 rfl hT.k hT.2.1 (by rfl) ?_
    refine o_icmp_ge (tgt := 16) dX6_has_9 (by decide) rfl (fun (c9 : (mu k 2) ≤ row) => ?_) (fun (c9 : ¬ (mu k 2) ≤ row) => ?_)
    · skip
      refine o_iconst (v := 0) dX6_has_16 rfl (by decide) ?_
      exact o_zret hq dX6_has_17 (Or.inl rfl) ⟨rfl, by simp [c1, c9]⟩
    · skip
      refine o_iconst (v := 1) dX6_has_12 rfl (by decide) ?_
      refine o_goto (tgt := 17) dX6_has_13 (by decide) ?_
      exact o_zret hq dX6_has_17 (Or.inr rfl) ⟨rfl, by simp [c1, c9]⟩
set_option maxHeartbeats 4000000 in
set_option maxRecDepth 100000 in
theorem c_X6_get (k n c : Nat) (hT : isTab k n c) (mu : Mu) (hO : TOK mu k n c) (row col : Int32) : Con yX6_get cX6_get 4 (some .int) 0 [vC k, vI row, vI col] mu (fun r mu2 => mu2 = mu ∧ r = tget mu k row col) := by
  refine con_of (own := RX6) (by decide) rfl (Nat.le_of_ble_eq_true rfl) (fun X g hq => ?_)
  show WA X g RX6 4 cX6_get 0 [(0, vC k), (1, vI row), (2, vI col)] [] mu
  refine o_iload_n dX6_get_0 rfl rfl (by rfl) ?_
  refine o_if_lt (tgt := 28) dX6_get_1 (by decide) rfl (fun (c1 : row < 0) => ?_) (fun (c1 : ¬ row < 0) => ?_)
  · skip
    refine o_iconst (v := 0) dX6_get_28 rfl (by decide) ?_
    refine o_istore_n (L' := [(0, vC k), (1, vI row), (2, vI col), (3, vI 0)]) dX6_get_29 rfl rfl (by decide) (by rfl) (by rfl) ?_
    refine o_iload_n dX6_get_30 rfl rfl (by rfl) ?_
    refine o_if_eq (tgt := 45) dX6_get_31 (by decide) rfl (fun (c31 : (0 : Int32) = 0) => ?_) (fun (c31 : ¬ (0 : Int32) = 0) => ?_)
    · skip
      refine o_iconst (v := 0) dX6_get_45 rfl (by decide) ?_
      exact o_iret hq dX6_get_46 ⟨rfl, by simp [tget, c1]⟩
    · skip
      exact absurd (by decide) c31
  · skip
    refine o_iload_n dX6_get_4 rfl rfl (by rfl) ?_
    refine o_aload_n dX6_get_5 rfl rfl (by rfl) ?_
    refine o_getI cl_X6_26 dX6_get_6 rfl hT.k hT.2.1 (by rfl) ?_
    refine o_icmp_ge (tgt := 28) dX6_get_9 (by decide) rfl (fun (c9 : (mu k 2) ≤ row) => ?_) (fun (c9 : ¬ (mu k 2) ≤ row) => ?_)
    · skip
      refine o_iconst (v := 0) dX6_get_28 rfl (by decide) ?_
      refine o_istore_n (L' := [(0, vC k), (1, vI row), (2, vI col), (3, vI 0)]) dX6_get_29 rfl rfl (by decide) (by rfl) (by rfl) ?_
      refine o_iload_n dX6_get_30 rfl rfl (by rfl) ?_
      refine o_if_eq (tgt := 45) dX6_get_31 (by decide) rfl (fun (c31 : (0 : Int32) = 0) => ?_) (fun (c31 : ¬ (0 : Int32) = 0) => ?_)
      · skip
        refine o_iconst (v := 0) dX6_get_45 rfl (by decide) ?_
        exact o_iret hq dX6_get_46 ⟨rfl, by simp [tget, c1, c9]⟩
      · skip
        exact absurd (by decide) c31
    · skip
      refine o_iload_n dX6_get_12 rfl rfl (by rfl) ?_
      refine o_if_lt (tgt := 28) dX6_get_13 (by decide) rfl (fun (c13 : col < 0) => ?_) (fun (c13 : ¬ col < 0) => ?_)
      · skip
        refine o_iconst (v := 0) dX6_get_28 rfl (by decide) ?_
        refine o_istore_n (L' := [(0, vC k), (1, vI row), (2, vI col), (3, vI 0)]) dX6_get_29 rfl rfl (by decide) (by rfl) (by rfl) ?_
        refine o_iload_n dX6_get_30 rfl rfl (by rfl) ?_
        refine o_if_eq (tgt := 45) dX6_get_31 (by decide) rfl (fun (c31 : (0 : Int32) = 0) => ?_) (fun (c31 : ¬ (0 : Int32) = 0) => ?_)
        · skip
          refine o_iconst (v := 0) dX6_get_45 rfl (by decide) ?_
          exact o_iret hq dX6_get_46 ⟨rfl, by simp [tget, c1, c9, c13]⟩
        · skip
          exact absurd (by decide) c31
      · skip
        refine o_iload_n dX6_get_16 rfl rfl (by rfl) ?_
        refine o_aload_n dX6_get_17 rfl rfl (by rfl) ?_
        refine o_getI cl_X6_22 dX6_get_18 rfl hT.k hT.2.1 (by rfl) ?_
        refine o_icmp_ge (tgt := 28) dX6_get_21 (by decide) rfl (fun (c21 : (mu k 1) ≤ col) => ?_) (fun (c21 : ¬ (mu k 1) ≤ col) => ?_)
        · skip
          refine o_iconst (v := 0) dX6_get_28 rfl (by decide) ?_
          refine o_istore_n (L' := [(0, vC k), (1, vI row), (2, vI col), (3, vI 0)]) dX6_get_29 rfl rfl (by decide) (by rfl) (by rfl) ?_
          refine o_iload_n dX6_get_30 rfl rfl (by rfl) ?_
          refine o_if_eq (tgt := 45) dX6_get_31 (by decide) rfl (fun (c31 : (0 : Int32) = 0) => ?_) (fun (c31 : ¬ (0 : Int32) = 0) => ?_)
          · skip
            refine o_iconst (v := 0) dX6_get_45 rfl (by decide) ?_
            exact o_iret hq dX6_get_46 ⟨rfl, by simp [tget, c1, c9, c13, c21]⟩
          · skip
            exact absurd (by decide) c31
        · skip
          refine o_iconst (v := 1) dX6_get_24 rfl (by decide) ?_
          refine o_goto (tgt := 29) dX6_get_25 (by decide) ?_
          refine o_istore_n (L' := [(0, vC k), (1, vI row), (2, vI col), (3, vI 1)]) dX6_get_29 rfl rfl (by decide) (by rfl) (by rfl) ?_
          refine o_iload_n dX6_get_30 rfl rfl (by rfl) ?_
          refine o_if_eq (tgt := 45) dX6_get_31 (by decide) rfl (fun (c31 : (1 : Int32) = 0) => ?_) (fun (c31 : ¬ (1 : Int32) = 0) => ?_)
          · skip
            exact absurd c31 (by decide)
          · skip
            refine o_aload_n dX6_get_34 rfl rfl (by rfl) ?_
            refine o_getC (q := k+1) cl_X6_17 dX6_get_35 rfl hT.k hT.2.1 (by rfl) ?_
            refine o_iload_n dX6_get_38 rfl rfl (by rfl) ?_
            refine o_aald dX6_get_39 rfl hT.k1 hT.2.2.1 hT.2.2.2.1 (tin.row hT hO c1 c9) ?_
            refine o_iload_n dX6_get_40 rfl rfl (by rfl) ?_
            refine o_iald dX6_get_41 rfl (hT.r (clamp_lt (tin.row hT hO c1 c9))) (hT.2.2.2.2.1 _ (clamp_lt (tin.row hT hO c1 c9))).1 (hT.2.2.2.2.1 _ (clamp_lt (tin.row hT hO c1 c9))).2 (tin.col hT hO c13 c21) ?_
            refine o_goto (tgt := 46) dX6_get_42 (by decide) ?_
            exact o_iret hq dX6_get_46 ⟨rfl, by simp [tget, c1, c9, c13, c21]⟩
theorem if10 {p : Prop} [Decidable p] {r : Int32} (h : r = if p then 1 else 0) : (r = 0 → ¬ p) ∧ (¬ r = 0 → p) := by
  by_cases q : p
  · rw [if_pos q] at h
    exact ⟨fun e => absurd (h.symm.trans e) (by decide), fun _ => q⟩
  · rw [if_neg q] at h
    exact ⟨fun _ => q, fun e => absurd h e⟩
theorem if01 {p : Prop} [Decidable p] {r : Int32} (h : r = if p then 0 else 1) : (r = 0 → p) ∧ (¬ r = 0 → ¬ p) := by
  by_cases q : p
  · rw [if_pos q] at h
    exact ⟨fun _ => q, fun e => absurd h e⟩
  · rw [if_neg q] at h
    exact ⟨fun e => absurd (h.symm.trans e) (by decide), fun _ => q⟩
def tput (mu : Mu) (k : Nat) (row col v : Int32) : Mu := if (¬ row < 0 ∧ ¬ mu k 2 ≤ row) ∧ (¬ col < 0 ∧ ¬ mu k 1 ≤ col) then upF mu (k + 2 + row.toNatClampNeg) col.toNatClampNeg v else mu
set_option maxHeartbeats 4000000 in
set_option maxRecDepth 100000 in
theorem c_X6_put (k n c : Nat) (hT : isTab k n c) (mu : Mu) (hO : TOK mu k n c) (row col v : Int32) : ConV yX6_put cX6_put 4 1 [vC k, vI row, vI col, vI v] mu (fun mu2 => mu2 = tput mu k row col v) := by
  refine conV_of (own := RX6) (by decide) rfl (Nat.le_of_ble_eq_true rfl) (fun X g hq => ?_)
  show WA X g RX6 4 cX6_put 0 [(0, vC k), (1, vI row), (2, vI col), (3, vI v)] [] mu
  refine o_aload_n dX6_put_0 rfl rfl (by rfl) ?_
  refine o_iload_n dX6_put_1 rfl rfl (by rfl) ?_
  refine o_callV cs_X6_has cv_X6_29 (c_X6_has k n c hT mu row) hq.2.2.2 (Nat.le_of_ble_eq_true rfl) dX6_put_2 rfl hT.k hT.2.1 (by rfl) (by rfl) rfl rfl (Nat.le_of_ble_eq_true rfl) (fun r1 mu1 h1 => ?_)
  obtain ⟨rfl, hr⟩ := h1
  refine o_if_eq (tgt := 29) dX6_put_5 (by decide) rfl (fun (c5 : r1 = 0) => ?_) (fun (c5 : ¬ r1 = 0) => ?_)
  · skip
    have hb := (if10 hr).1 c5
    exact o_vret hq dX6_put_29 (by rw [tput, if_neg (fun h => hb h.1)])
  · skip
    have hb := (if10 hr).2 c5
    refine o_iload_n dX6_put_8 rfl rfl (by rfl) ?_
    refine o_if_lt (tgt := 29) dX6_put_9 (by decide) rfl (fun (c9 : col < 0) => ?_) (fun (c9 : ¬ col < 0) => ?_)
    · skip
      exact o_vret hq dX6_put_29 (by rw [tput, if_neg (fun h => h.2.1 c9)])
    · skip
      refine o_iload_n dX6_put_12 rfl rfl (by rfl) ?_
      refine o_aload_n dX6_put_13 rfl rfl (by rfl) ?_
      refine o_getI cl_X6_22 dX6_put_14 rfl hT.k hT.2.1 (by rfl) ?_
      refine o_icmp_ge (tgt := 29) dX6_put_17 (by decide) rfl (fun (c17 : (mu1 k 1) ≤ col) => ?_) (fun (c17 : ¬ (mu1 k 1) ≤ col) => ?_)
      · skip
        exact o_vret hq dX6_put_29 (by rw [tput, if_neg (fun h => h.2.2 c17)])
      · skip
        refine o_aload_n dX6_put_20 rfl rfl (by rfl) ?_
        refine o_getC (q := k+1) cl_X6_17 dX6_put_21 rfl hT.k hT.2.1 (by rfl) ?_
        refine o_iload_n dX6_put_24 rfl rfl (by rfl) ?_
        refine o_aald dX6_put_25 rfl hT.k1 hT.2.2.1 hT.2.2.2.1 (tin.row hT hO hb.1 hb.2) ?_
        refine o_iload_n dX6_put_26 rfl rfl (by rfl) ?_
        refine o_iload_n dX6_put_27 rfl rfl (by rfl) ?_
        refine o_iast dX6_put_28 rfl (hT.r (clamp_lt (tin.row hT hO hb.1 hb.2))) (hT.2.2.2.2.1 _ (clamp_lt (tin.row hT hO hb.1 hb.2))).1 (hT.2.2.2.2.1 _ (clamp_lt (tin.row hT hO hb.1 hb.2))).2 (tin.col hT hO c9 c17) ?_
        exact o_vret hq dX6_put_29 (by rw [tput, if_pos ⟨hb, c9, c17⟩])
set_option maxHeartbeats 4000000 in
set_option maxRecDepth 100000 in
theorem c_X6_grow (k n c : Nat) (hT : isTab k n c) (mu : Mu) : Con yX6_grow cX6_grow 1 (some .int) 1 [vC k] mu (fun r mu2 => (mu k 2 < nI n ∧ mu2 = upF mu k 2 (mu k 2 + 1) ∧ r = mu k 2) ∨ (¬ mu k 2 < nI n ∧ mu2 = mu ∧ r = -3)) := by
  refine con_of (own := RX6) (by decide) rfl (Nat.le_of_ble_eq_true rfl) (fun X g hq => ?_)
  show WA X g RX6 1 cX6_grow 0 [(0, vC k)] [] mu
  refine o_aload_n dX6_grow_0 rfl rfl (by rfl) ?_
  refine o_callV cs_X6_isFull cv_X6_33 (c_X6_isFull k n c hT mu) hq.2.2.2 (Nat.le_of_ble_eq_true rfl) dX6_grow_1 rfl hT.k hT.2.1 (by rfl) (by rfl) rfl rfl (Nat.le_of_ble_eq_true rfl) (fun r1 mu1 h1 => ?_)
  obtain ⟨rfl, hr⟩ := h1
  refine o_if_eq (tgt := 10) dX6_grow_4 (by decide) rfl (fun (c4 : r1 = 0) => ?_) (fun (c4 : ¬ r1 = 0) => ?_)
  · skip
    have hb := (if01 hr).1 c4
    refine o_aload_n dX6_grow_10 rfl rfl (by rfl) ?_
    refine o_dup dX6_grow_11 rfl rfl ?_
    refine o_getI cl_X6_26 dX6_grow_12 rfl hT.k hT.2.1 (by rfl) ?_
    refine o_iconst (v := 1) dX6_grow_15 rfl (by decide) ?_
    refine o_iadd dX6_grow_16 rfl ?_
    refine o_put cl_X6_26 cp_X6_2 dX6_grow_17 rfl hT.k hT.2.1 (by rfl) fitI ?_
    refine o_aload_n dX6_grow_20 rfl rfl (by rfl) ?_
    refine o_getI cl_X6_26 dX6_grow_21 rfl hT.k hT.2.1 (by rfl) ?_
    refine o_iconst (v := 1) dX6_grow_24 rfl (by decide) ?_
    refine o_isub dX6_grow_25 rfl ?_
    exact o_iret hq dX6_grow_26 (Or.inl ⟨hb, rfl, by rw [upF_s]; exact Int32.add_sub_cancel _ _⟩)
  · skip
    have hb := (if01 hr).2 c4
    refine o_bipush (v := (-3)) dX6_grow_7 rfl (by decide) ?_
    exact o_iret hq dX6_grow_9 (Or.inr ⟨hb, rfl, rfl⟩)
set_option maxHeartbeats 4000000 in
set_option maxRecDepth 100000 in
theorem c_X6_empty (k n c : Nat) (hT : isTab k n c) (mu : Mu) : Con yX6_empty cX6_empty 2 (some .int) 0 [vC k] mu (fun r mu2 => mu2 = upF mu k 2 0 ∧ r = mu k 2) := by
  refine con_of (own := RX6) (by decide) rfl (Nat.le_of_ble_eq_true rfl) (fun X g hq => ?_)
  show WA X g RX6 2 cX6_empty 0 [(0, vC k)] [] mu
  refine o_aload_n dX6_empty_0 rfl rfl (by rfl) ?_
  refine o_getI cl_X6_26 dX6_empty_1 rfl hT.k hT.2.1 (by rfl) ?_
  refine o_istore_n (L' := [(0, vC k), (1, vI (mu k 2))]) dX6_empty_4 rfl rfl (by decide) (by rfl) (by rfl) ?_
  refine o_aload_n dX6_empty_5 rfl rfl (by rfl) ?_
  refine o_iconst (v := 0) dX6_empty_6 rfl (by decide) ?_
  refine o_put cl_X6_26 cp_X6_2 dX6_empty_7 rfl hT.k hT.2.1 (by rfl) fitI ?_
  refine o_iload_n dX6_empty_10 rfl rfl (by rfl) ?_
  exact o_iret hq dX6_empty_11 ⟨rfl, rfl⟩
