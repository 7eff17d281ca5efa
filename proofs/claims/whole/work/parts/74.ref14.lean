/-! ===== the reference: images ===== -/
theorem PT.cl {mu m : Mu} {k b t : Nat} {V : Vc} {v x y : Int32} (h : PT mu m k b t V) (ei : x = nI (b + t)) (hb : b + t < 2 ^ 31) (ev : v = V t) : PT mu (upF m k x.toNatClampNeg v) k b (t + 1) V := PT.go (by rw [ei, nI_clamp hb]) ev h
set_option maxHeartbeats 4000000 in
set_option maxRecDepth 100000 in
theorem c_saves_95 (mu : Mu) (A : Nat) (hA : A + 3 ≤ 80) : Con yX9_saves cX9_saves 4 (some .int) 0 [vC 95, vC 108, vI (nI A)] mu (fun r mu2 => r = nI (A + 3) ∧ PT mu mu2 108 A 3 (mu 95)) := by
  refine con_of (own := RX9) (by decide) rfl (Nat.le_of_ble_eq_true rfl) (fun X g hq => ?_)
  show WA X g RX9 4 cX9_saves 0 [(0, vC 95), (1, vC 108), (2, vI (nI A))] [] mu
  refine o_iconst (v := 0) dX9_saves_0 rfl (by decide) ?_
  refine o_istore_n (L' := [(0, vC 95), (1, vC 108), (2, vI (nI A)), (3, vI 0)]) dX9_saves_1 rfl rfl (by decide) (by rfl) (by rfl) ?_
  have LP2 : ∀ (nLP2 : Nat) (i : Nat) (m : Mu) , (i ≤ 3) → (PT mu m 108 A i (mu 95)) → (3 < i + nLP2) → WA X g RX9 4 cX9_saves 2 [(0, vC 95), (1, vC 108), (2, vI (nI A)), (3, vI (nI i))] [] m := by
    intro nLP2
    induction nLP2 with
    | zero =>
      intro i m hi hP hm
      exact absurd hm (by omega)
    | succ nLP2 ihLP2 =>
      intro i m hi hP hm
      refine o_iload_n dX9_saves_2 rfl rfl (by rfl) ?_
      refine o_aload_n dX9_saves_3 rfl rfl (by rfl) ?_
      refine o_alen (v := nI 3) dX9_saves_4 rfl (by decide) (by rfl) (by rfl) ?_
      refine o_icmp_ge (tgt := 22) dX9_saves_5 (by decide) rfl (fun (c5 : (nI 3) ≤ (nI i)) => ?_) (fun (c5 : ¬ (nI 3) ≤ (nI i)) => ?_)
      · skip
        have hk2 := nI_dec2 c5 (by omega) (by decide)
        have e2 : i = 3 := by omega
        rw [e2] at hP
        refine o_iload_n dX9_saves_22 rfl rfl (by rfl) ?_
        refine o_aload_n dX9_saves_23 rfl rfl (by rfl) ?_
        refine o_alen (v := nI 3) dX9_saves_24 rfl (by decide) (by rfl) (by rfl) ?_
        refine o_iadd dX9_saves_25 rfl ?_
        exact o_iret hq dX9_saves_26 ⟨nI_add A 3, hP⟩
      · skip
        have hk2 := nI_dec c5 (by omega) (by decide)
        refine o_aload_n dX9_saves_8 rfl rfl (by rfl) ?_
        refine o_iload_n dX9_saves_9 rfl rfl (by rfl) ?_
        refine o_iload_n dX9_saves_10 rfl rfl (by rfl) ?_
        refine o_iadd dX9_saves_11 rfl ?_
        refine o_aload_n dX9_saves_12 rfl rfl (by rfl) ?_
        refine o_iload_n dX9_saves_13 rfl rfl (by rfl) ?_
        refine o_iald dX9_saves_14 rfl (by decide) (by rfl) (by rfl) (vp_in_nI (by omega) (by decide)) ?_
        refine o_iast dX9_saves_15 rfl (by decide) (by rfl) (by rfl) (by rw [nI_add]; exact vp_in_nI (by omega) (by decide)) ?_
        refine o_iinc (v := nI (i + 1)) (L' := [(0, vC 95), (1, vC 108), (2, vI (nI A)), (3, vI (nI (i + 1)))]) dX9_saves_16 rfl (by rfl) (by exact nI_1 i) (by decide) (by rfl) (by rfl) ?_
        refine o_goto (tgt := 2) dX9_saves_19 (by decide) ?_
        rw [nI_add, nI_clamp (by omega), nI_clamp (by omega)]
        exact ihLP2 (i + 1) _ (by omega) (PT.go rfl (by rw [hP.1 95 (by decide)]) hP) (by omega)
  exact LP2 4 0 _ (by omega) (PT.nil _ _ _ _) (by omega)
set_option maxHeartbeats 4000000 in
set_option maxRecDepth 100000 in
theorem c_gives_95 (mu : Mu) (A : Nat) (hA : A + 3 ≤ 80) : Con yX9_gives cX9_gives 4 (some .int) 0 [vC 108, vI (nI A), vC 95] mu (fun r mu2 => r = nI (A + 3) ∧ PT mu mu2 95 0 3 (fun j => mu 108 (A + j))) := by
  refine con_of (own := RX9) (by decide) rfl (Nat.le_of_ble_eq_true rfl) (fun X g hq => ?_)
  show WA X g RX9 4 cX9_gives 0 [(0, vC 108), (1, vI (nI A)), (2, vC 95)] [] mu
  refine o_iconst (v := 0) dX9_gives_0 rfl (by decide) ?_
  refine o_istore_n (L' := [(0, vC 108), (1, vI (nI A)), (2, vC 95), (3, vI 0)]) dX9_gives_1 rfl rfl (by decide) (by rfl) (by rfl) ?_
  have LP2 : ∀ (nLP2 : Nat) (i : Nat) (m : Mu) , (i ≤ 3) → (PT mu m 95 0 i (fun j => mu 108 (A + j))) → (3 < i + nLP2) → WA X g RX9 4 cX9_gives 2 [(0, vC 108), (1, vI (nI A)), (2, vC 95), (3, vI (nI i))] [] m := by
    intro nLP2
    induction nLP2 with
    | zero =>
      intro i m hi hP hm
      exact absurd hm (by omega)
    | succ nLP2 ihLP2 =>
      intro i m hi hP hm
      refine o_iload_n dX9_gives_2 rfl rfl (by rfl) ?_
      refine o_aload_n dX9_gives_3 rfl rfl (by rfl) ?_
      refine o_alen (v := nI 3) dX9_gives_4 rfl (by decide) (by rfl) (by rfl) ?_
      refine o_icmp_ge (tgt := 22) dX9_gives_5 (by decide) rfl (fun (c5 : (nI 3) ≤ (nI i)) => ?_) (fun (c5 : ¬ (nI 3) ≤ (nI i)) => ?_)
      · skip
        have hk2 := nI_dec2 c5 (by omega) (by decide)
        have e2 : i = 3 := by omega
        rw [e2] at hP
        refine o_iload_n dX9_gives_22 rfl rfl (by rfl) ?_
        refine o_aload_n dX9_gives_23 rfl rfl (by rfl) ?_
        refine o_alen (v := nI 3) dX9_gives_24 rfl (by decide) (by rfl) (by rfl) ?_
        refine o_iadd dX9_gives_25 rfl ?_
        exact o_iret hq dX9_gives_26 ⟨nI_add A 3, hP⟩
      · skip
        have hk2 := nI_dec c5 (by omega) (by decide)
        refine o_aload_n dX9_gives_8 rfl rfl (by rfl) ?_
        refine o_iload_n dX9_gives_9 rfl rfl (by rfl) ?_
        refine o_aload_n dX9_gives_10 rfl rfl (by rfl) ?_
        refine o_iload_n dX9_gives_11 rfl rfl (by rfl) ?_
        refine o_iload_n dX9_gives_12 rfl rfl (by rfl) ?_
        refine o_iadd dX9_gives_13 rfl ?_
        refine o_iald dX9_gives_14 rfl (by decide) (by rfl) (by rfl) (by rw [nI_add]; exact vp_in_nI (by omega) (by decide)) ?_
        refine o_iast dX9_gives_15 rfl (by decide) (by rfl) (by rfl) (vp_in_nI (by omega) (by decide)) ?_
        refine o_iinc (v := nI (i + 1)) (L' := [(0, vC 108), (1, vI (nI A)), (2, vC 95), (3, vI (nI (i + 1)))]) dX9_gives_16 rfl (by rfl) (by exact nI_1 i) (by decide) (by rfl) (by rfl) ?_
        refine o_goto (tgt := 2) dX9_gives_19 (by decide) ?_
        rw [nI_add, nI_clamp (by omega), nI_clamp (by omega)]
        exact ihLP2 (i + 1) _ (by omega) (PT.go (by omega) (by rw [hP.1 108 (by decide)]) hP) (by omega)
  exact LP2 4 0 _ (by omega) (PT.nil _ _ _ _) (by omega)
set_option maxHeartbeats 4000000 in
set_option maxRecDepth 100000 in
theorem c_saves_96 (mu : Mu) (A : Nat) (hA : A + 20 ≤ 80) : Con yX9_saves cX9_saves 4 (some .int) 0 [vC 96, vC 108, vI (nI A)] mu (fun r mu2 => r = nI (A + 20) ∧ PT mu mu2 108 A 20 (mu 96)) := by
  refine con_of (own := RX9) (by decide) rfl (Nat.le_of_ble_eq_true rfl) (fun X g hq => ?_)
  show WA X g RX9 4 cX9_saves 0 [(0, vC 96), (1, vC 108), (2, vI (nI A))] [] mu
  refine o_iconst (v := 0) dX9_saves_0 rfl (by decide) ?_
  refine o_istore_n (L' := [(0, vC 96), (1, vC 108), (2, vI (nI A)), (3, vI 0)]) dX9_saves_1 rfl rfl (by decide) (by rfl) (by rfl) ?_
  have LP2 : ∀ (nLP2 : Nat) (i : Nat) (m : Mu) , (i ≤ 20) → (PT mu m 108 A i (mu 96)) → (20 < i + nLP2) → WA X g RX9 4 cX9_saves 2 [(0, vC 96), (1, vC 108), (2, vI (nI A)), (3, vI (nI i))] [] m := by
    intro nLP2
    induction nLP2 with
    | zero =>
      intro i m hi hP hm
      exact absurd hm (by omega)
    | succ nLP2 ihLP2 =>
      intro i m hi hP hm
      refine o_iload_n dX9_saves_2 rfl rfl (by rfl) ?_
      refine o_aload_n dX9_saves_3 rfl rfl (by rfl) ?_
      refine o_alen (v := nI 20) dX9_saves_4 rfl (by decide) (by rfl) (by rfl) ?_
      refine o_icmp_ge (tgt := 22) dX9_saves_5 (by decide) rfl (fun (c5 : (nI 20) ≤ (nI i)) => ?_) (fun (c5 : ¬ (nI 20) ≤ (nI i)) => ?_)
      · skip
        have hk2 := nI_dec2 c5 (by omega) (by decide)
        have e2 : i = 20 := by omega
        rw [e2] at hP
        refine o_iload_n dX9_saves_22 rfl rfl (by rfl) ?_
        refine o_aload_n dX9_saves_23 rfl rfl (by rfl) ?_
        refine o_alen (v := nI 20) dX9_saves_24 rfl (by decide) (by rfl) (by rfl) ?_
        refine o_iadd dX9_saves_25 rfl ?_
        exact o_iret hq dX9_saves_26 ⟨nI_add A 20, hP⟩
      · skip
        have hk2 := nI_dec c5 (by omega) (by decide)
        refine o_aload_n dX9_saves_8 rfl rfl (by rfl) ?_
        refine o_iload_n dX9_saves_9 rfl rfl (by rfl) ?_
        refine o_iload_n dX9_saves_10 rfl rfl (by rfl) ?_
        refine o_iadd dX9_saves_11 rfl ?_
        refine o_aload_n dX9_saves_12 rfl rfl (by rfl) ?_
        refine o_iload_n dX9_saves_13 rfl rfl (by rfl) ?_
        refine o_iald dX9_saves_14 rfl (by decide) (by rfl) (by rfl) (vp_in_nI (by omega) (by decide)) ?_
        refine o_iast dX9_saves_15 rfl (by decide) (by rfl) (by rfl) (by rw [nI_add]; exact vp_in_nI (by omega) (by decide)) ?_
        refine o_iinc (v := nI (i + 1)) (L' := [(0, vC 96), (1, vC 108), (2, vI (nI A)), (3, vI (nI (i + 1)))]) dX9_saves_16 rfl (by rfl) (by exact nI_1 i) (by decide) (by rfl) (by rfl) ?_
        refine o_goto (tgt := 2) dX9_saves_19 (by decide) ?_
        rw [nI_add, nI_clamp (by omega), nI_clamp (by omega)]
        exact ihLP2 (i + 1) _ (by omega) (PT.go rfl (by rw [hP.1 96 (by decide)]) hP) (by omega)
  exact LP2 21 0 _ (by omega) (PT.nil _ _ _ _) (by omega)
set_option maxHeartbeats 4000000 in
set_option maxRecDepth 100000 in
theorem c_gives_96 (mu : Mu) (A : Nat) (hA : A + 20 ≤ 80) : Con yX9_gives cX9_gives 4 (some .int) 0 [vC 108, vI (nI A), vC 96] mu (fun r mu2 => r = nI (A + 20) ∧ PT mu mu2 96 0 20 (fun j => mu 108 (A + j))) := by
  refine con_of (own := RX9) (by decide) rfl (Nat.le_of_ble_eq_true rfl) (fun X g hq => ?_)
  show WA X g RX9 4 cX9_gives 0 [(0, vC 108), (1, vI (nI A)), (2, vC 96)] [] mu
  refine o_iconst (v := 0) dX9_gives_0 rfl (by decide) ?_
  refine o_istore_n (L' := [(0, vC 108), (1, vI (nI A)), (2, vC 96), (3, vI 0)]) dX9_gives_1 rfl rfl (by decide) (by rfl) (by rfl) ?_
  have LP2 : ∀ (nLP2 : Nat) (i : Nat) (m : Mu) , (i ≤ 20) → (PT mu m 96 0 i (fun j => mu 108 (A + j))) → (20 < i + nLP2) → WA X g RX9 4 cX9_gives 2 [(0, vC 108), (1, vI (nI A)), (2, vC 96), (3, vI (nI i))] [] m := by
    intro nLP2
    induction nLP2 with
    | zero =>
      intro i m hi hP hm
      exact absurd hm (by omega)
    | succ nLP2 ihLP2 =>
      intro i m hi hP hm
      refine o_iload_n dX9_gives_2 rfl rfl (by rfl) ?_
      refine o_aload_n dX9_gives_3 rfl rfl (by rfl) ?_
      refine o_alen (v := nI 20) dX9_gives_4 rfl (by decide) (by rfl) (by rfl) ?_
      refine o_icmp_ge (tgt := 22) dX9_gives_5 (by decide) rfl (fun (c5 : (nI 20) ≤ (nI i)) => ?_) (fun (c5 : ¬ (nI 20) ≤ (nI i)) => ?_)
      · skip
        have hk2 := nI_dec2 c5 (by omega) (by decide)
        have e2 : i = 20 := by omega
        rw [e2] at hP
        refine o_iload_n dX9_gives_22 rfl rfl (by rfl) ?_
        refine o_aload_n dX9_gives_23 rfl rfl (by rfl) ?_
        refine o_alen (v := nI 20) dX9_gives_24 rfl (by decide) (by rfl) (by rfl) ?_
        refine o_iadd dX9_gives_25 rfl ?_
        exact o_iret hq dX9_gives_26 ⟨nI_add A 20, hP⟩
      · skip
        have hk2 := nI_dec c5 (by omega) (by decide)
        refine o_aload_n dX9_gives_8 rfl rfl (by rfl) ?_
        refine o_iload_n dX9_gives_9 rfl rfl (by rfl) ?_
        refine o_aload_n dX9_gives_10 rfl rfl (by rfl) ?_
        refine o_iload_n dX9_gives_11 rfl rfl (by rfl) ?_
        refine o_iload_n dX9_gives_12 rfl rfl (by rfl) ?_
        refine o_iadd dX9_gives_13 rfl ?_
        refine o_iald dX9_gives_14 rfl (by decide) (by rfl) (by rfl) (by rw [nI_add]; exact vp_in_nI (by omega) (by decide)) ?_
        refine o_iast dX9_gives_15 rfl (by decide) (by rfl) (by rfl) (vp_in_nI (by omega) (by decide)) ?_
        refine o_iinc (v := nI (i + 1)) (L' := [(0, vC 108), (1, vI (nI A)), (2, vC 96), (3, vI (nI (i + 1)))]) dX9_gives_16 rfl (by rfl) (by exact nI_1 i) (by decide) (by rfl) (by rfl) ?_
        refine o_goto (tgt := 2) dX9_gives_19 (by decide) ?_
        rw [nI_add, nI_clamp (by omega), nI_clamp (by omega)]
        exact ihLP2 (i + 1) _ (by omega) (PT.go (by omega) (by rw [hP.1 108 (by decide)]) hP) (by omega)
  exact LP2 21 0 _ (by omega) (PT.nil _ _ _ _) (by omega)
set_option maxHeartbeats 4000000 in
set_option maxRecDepth 100000 in
theorem c_saves_97 (mu : Mu) (A : Nat) (hA : A + 18 ≤ 80) : Con yX9_saves cX9_saves 4 (some .int) 0 [vC 97, vC 108, vI (nI A)] mu (fun r mu2 => r = nI (A + 18) ∧ PT mu mu2 108 A 18 (mu 97)) := by
  refine con_of (own := RX9) (by decide) rfl (Nat.le_of_ble_eq_true rfl) (fun X g hq => ?_)
  show WA X g RX9 4 cX9_saves 0 [(0, vC 97), (1, vC 108), (2, vI (nI A))] [] mu
  refine o_iconst (v := 0) dX9_saves_0 rfl (by decide) ?_
  refine o_istore_n (L' := [(0, vC 97), (1, vC 108), (2, vI (nI A)), (3, vI 0)]) dX9_saves_1 rfl rfl (by decide) (by rfl) (by rfl) ?_
  have LP2 : ∀ (nLP2 : Nat) (i : Nat) (m : Mu) , (i ≤ 18) → (PT mu m 108 A i (mu 97)) → (18 < i + nLP2) → WA X g RX9 4 cX9_saves 2 [(0, vC 97), (1, vC 108), (2, vI (nI A)), (3, vI (nI i))] [] m := by
    intro nLP2
    induction nLP2 with
    | zero =>
      intro i m hi hP hm
      exact absurd hm (by omega)
    | succ nLP2 ihLP2 =>
      intro i m hi hP hm
      refine o_iload_n dX9_saves_2 rfl rfl (by rfl) ?_
      refine o_aload_n dX9_saves_3 rfl rfl (by rfl) ?_
      refine o_alen (v := nI 18) dX9_saves_4 rfl (by decide) (by rfl) (by rfl) ?_
      refine o_icmp_ge (tgt := 22) dX9_saves_5 (by decide) rfl (fun (c5 : (nI 18) ≤ (nI i)) => ?_) (fun (c5 : ¬ (nI 18) ≤ (nI i)) => ?_)
      · skip
        have hk2 := nI_dec2 c5 (by omega) (by decide)
        have e2 : i = 18 := by omega
        rw [e2] at hP
        refine o_iload_n dX9_saves_22 rfl rfl (by rfl) ?_
        refine o_aload_n dX9_saves_23 rfl rfl (by rfl) ?_
        refine o_alen (v := nI 18) dX9_saves_24 rfl (by decide) (by rfl) (by rfl) ?_
        refine o_iadd dX9_saves_25 rfl ?_
        exact o_iret hq dX9_saves_26 ⟨nI_add A 18, hP⟩
      · skip
        have hk2 := nI_dec c5 (by omega) (by decide)
        refine o_aload_n dX9_saves_8 rfl rfl (by rfl) ?_
        refine o_iload_n dX9_saves_9 rfl rfl (by rfl) ?_
        refine o_iload_n dX9_saves_10 rfl rfl (by rfl) ?_
        refine o_iadd dX9_saves_11 rfl ?_
        refine o_aload_n dX9_saves_12 rfl rfl (by rfl) ?_
        refine o_iload_n dX9_saves_13 rfl rfl (by rfl) ?_
        refine o_iald dX9_saves_14 rfl (by decide) (by rfl) (by rfl) (vp_in_nI (by omega) (by decide)) ?_
        refine o_iast dX9_saves_15 rfl (by decide) (by rfl) (by rfl) (by rw [nI_add]; exact vp_in_nI (by omega) (by decide)) ?_
        refine o_iinc (v := nI (i + 1)) (L' := [(0, vC 97), (1, vC 108), (2, vI (nI A)), (3, vI (nI (i + 1)))]) dX9_saves_16 rfl (by rfl) (by exact nI_1 i) (by decide) (by rfl) (by rfl) ?_
        refine o_goto (tgt := 2) dX9_saves_19 (by decide) ?_
        rw [nI_add, nI_clamp (by omega), nI_clamp (by omega)]
        exact ihLP2 (i + 1) _ (by omega) (PT.go rfl (by rw [hP.1 97 (by decide)]) hP) (by omega)
  exact LP2 19 0 _ (by omega) (PT.nil _ _ _ _) (by omega)
set_option maxHeartbeats 4000000 in
set_option maxRecDepth 100000 in
theorem c_gives_97 (mu : Mu) (A : Nat) (hA : A + 18 ≤ 80) : Con yX9_gives cX9_gives 4 (some .int) 0 [vC 108, vI (nI A), vC 97] mu (fun r mu2 => r = nI (A + 18) ∧ PT mu mu2 97 0 18 (fun j => mu 108 (A + j))) := by
  refine con_of (own := RX9) (by decide) rfl (Nat.le_of_ble_eq_true rfl) (fun X g hq => ?_)
  show WA X g RX9 4 cX9_gives 0 [(0, vC 108), (1, vI (nI A)), (2, vC 97)] [] mu
  refine o_iconst (v := 0) dX9_gives_0 rfl (by decide) ?_
  refine o_istore_n (L' := [(0, vC 108), (1, vI (nI A)), (2, vC 97), (3, vI 0)]) dX9_gives_1 rfl rfl (by decide) (by rfl) (by rfl) ?_
  have LP2 : ∀ (nLP2 : Nat) (i : Nat) (m : Mu) , (i ≤ 18) → (PT mu m 97 0 i (fun j => mu 108 (A + j))) → (18 < i + nLP2) → WA X g RX9 4 cX9_gives 2 [(0, vC 108), (1, vI (nI A)), (2, vC 97), (3, vI (nI i))] [] m := by
    intro nLP2
    induction nLP2 with
    | zero =>
      intro i m hi hP hm
      exact absurd hm (by omega)
    | succ nLP2 ihLP2 =>
      intro i m hi hP hm
      refine o_iload_n dX9_gives_2 rfl rfl (by rfl) ?_
      refine o_aload_n dX9_gives_3 rfl rfl (by rfl) ?_
      refine o_alen (v := nI 18) dX9_gives_4 rfl (by decide) (by rfl) (by rfl) ?_
      refine o_icmp_ge (tgt := 22) dX9_gives_5 (by decide) rfl (fun (c5 : (nI 18) ≤ (nI i)) => ?_) (fun (c5 : ¬ (nI 18) ≤ (nI i)) => ?_)
      · skip
        have hk2 := nI_dec2 c5 (by omega) (by decide)
        have e2 : i = 18 := by omega
        rw [e2] at hP
        refine o_iload_n dX9_gives_22 rfl rfl (by rfl) ?_
        refine o_aload_n dX9_gives_23 rfl rfl (by rfl) ?_
        refine o_alen (v := nI 18) dX9_gives_24 rfl (by decide) (by rfl) (by rfl) ?_
        refine o_iadd dX9_gives_25 rfl ?_
        exact o_iret hq dX9_gives_26 ⟨nI_add A 18, hP⟩
      · skip
        have hk2 := nI_dec c5 (by omega) (by decide)
        refine o_aload_n dX9_gives_8 rfl rfl (by rfl) ?_
        refine o_iload_n dX9_gives_9 rfl rfl (by rfl) ?_
        refine o_aload_n dX9_gives_10 rfl rfl (by rfl) ?_
        refine o_iload_n dX9_gives_11 rfl rfl (by rfl) ?_
        refine o_iload_n dX9_gives_12 rfl rfl (by rfl) ?_
        refine o_iadd dX9_gives_13 rfl ?_
        refine o_iald dX9_gives_14 rfl (by decide) (by rfl) (by rfl) (by rw [nI_add]; exact vp_in_nI (by omega) (by decide)) ?_
        refine o_iast dX9_gives_15 rfl (by decide) (by rfl) (by rfl) (vp_in_nI (by omega) (by decide)) ?_
        refine o_iinc (v := nI (i + 1)) (L' := [(0, vC 108), (1, vI (nI A)), (2, vC 97), (3, vI (nI (i + 1)))]) dX9_gives_16 rfl (by rfl) (by exact nI_1 i) (by decide) (by rfl) (by rfl) ?_
        refine o_goto (tgt := 2) dX9_gives_19 (by decide) ?_
        rw [nI_add, nI_clamp (by omega), nI_clamp (by omega)]
        exact ihLP2 (i + 1) _ (by omega) (PT.go (by omega) (by rw [hP.1 108 (by decide)]) hP) (by omega)
  exact LP2 19 0 _ (by omega) (PT.nil _ _ _ _) (by omega)
set_option maxHeartbeats 4000000 in
set_option maxRecDepth 100000 in
theorem c_saves_98 (mu : Mu) (A : Nat) (hA : A + 32 ≤ 80) : Con yX9_saves cX9_saves 4 (some .int) 0 [vC 98, vC 108, vI (nI A)] mu (fun r mu2 => r = nI (A + 32) ∧ PT mu mu2 108 A 32 (mu 98)) := by
  refine con_of (own := RX9) (by decide) rfl (Nat.le_of_ble_eq_true rfl) (fun X g hq => ?_)
  show WA X g RX9 4 cX9_saves 0 [(0, vC 98), (1, vC 108), (2, vI (nI A))] [] mu
  refine o_iconst (v := 0) dX9_saves_0 rfl (by decide) ?_
  refine o_istore_n (L' := [(0, vC 98), (1, vC 108), (2, vI (nI A)), (3, vI 0)]) dX9_saves_1 rfl rfl (by decide) (by rfl) (by rfl) ?_
  have LP2 : ∀ (nLP2 : Nat) (i : Nat) (m : Mu) , (i ≤ 32) → (PT mu m 108 A i (mu 98)) → (32 < i + nLP2) → WA X g RX9 4 cX9_saves 2 [(0, vC 98), (1, vC 108), (2, vI (nI A)), (3, vI (nI i))] [] m := by
    intro nLP2
    induction nLP2 with
    | zero =>
      intro i m hi hP hm
      exact absurd hm (by omega)
    | succ nLP2 ihLP2 =>
      intro i m hi hP hm
      refine o_iload_n dX9_saves_2 rfl rfl (by rfl) ?_
      refine o_aload_n dX9_saves_3 rfl rfl (by rfl) ?_
      refine o_alen (v := nI 32) dX9_saves_4 rfl (by decide) (by rfl) (by rfl) ?_
      refine o_icmp_ge (tgt := 22) dX9_saves_5 (by decide) rfl (fun (c5 : (nI 32) ≤ (nI i)) => ?_) (fun (c5 : ¬ (nI 32) ≤ (nI i)) => ?_)
      · skip
        have hk2 := nI_dec2 c5 (by omega) (by decide)
        have e2 : i = 32 := by omega
        rw [e2] at hP
        refine o_iload_n dX9_saves_22 rfl rfl (by rfl) ?_
        refine o_aload_n dX9_saves_23 rfl rfl (by rfl) ?_
        refine o_alen (v := nI 32) dX9_saves_24 rfl (by decide) (by rfl) (by rfl) ?_
        refine o_iadd dX9_saves_25 rfl ?_
        exact o_iret hq dX9_saves_26 ⟨nI_add A 32, hP⟩
      · skip
        have hk2 := nI_dec c5 (by omega) (by decide)
        refine o_aload_n dX9_saves_8 rfl rfl (by rfl) ?_
        refine o_iload_n dX9_saves_9 rfl rfl (by rfl) ?_
        refine o_iload_n dX9_saves_10 rfl rfl (by rfl) ?_
        refine o_iadd dX9_saves_11 rfl ?_
        refine o_aload_n dX9_saves_12 rfl rfl (by rfl) ?_
        refine o_iload_n dX9_saves_13 rfl rfl (by rfl) ?_
        refine o_iald dX9_saves_14 rfl (by decide) (by rfl) (by rfl) (vp_in_nI (by omega) (by decide)) ?_
        refine o_iast dX9_saves_15 rfl (by decide) (by rfl) (by rfl) (by rw [nI_add]; exact vp_in_nI (by omega) (by decide)) ?_
        refine o_iinc (v := nI (i + 1)) (L' := [(0, vC 98), (1, vC 108), (2, vI (nI A)), (3, vI (nI (i + 1)))]) dX9_saves_16 rfl (by rfl) (by exact nI_1 i) (by decide) (by rfl) (by rfl) ?_
        refine o_goto (tgt := 2) dX9_saves_19 (by decide) ?_
        rw [nI_add, nI_clamp (by omega), nI_clamp (by omega)]
        exact ihLP2 (i + 1) _ (by omega) (PT.go rfl (by rw [hP.1 98 (by decide)]) hP) (by omega)
  exact LP2 33 0 _ (by omega) (PT.nil _ _ _ _) (by omega)
set_option maxHeartbeats 4000000 in
set_option maxRecDepth 100000 in
theorem c_gives_98 (mu : Mu) (A : Nat) (hA : A + 32 ≤ 80) : Con yX9_gives cX9_gives 4 (some .int) 0 [vC 108, vI (nI A), vC 98] mu (fun r mu2 => r = nI (A + 32) ∧ PT mu mu2 98 0 32 (fun j => mu 108 (A + j))) := by
  refine con_of (own := RX9) (by decide) rfl (Nat.le_of_ble_eq_true rfl) (fun X g hq => ?_)
  show WA X g RX9 4 cX9_gives 0 [(0, vC 108), (1, vI (nI A)), (2, vC 98)] [] mu
  refine o_iconst (v := 0) dX9_gives_0 rfl (by decide) ?_
  refine o_istore_n (L' := [(0, vC 108), (1, vI (nI A)), (2, vC 98), (3, vI 0)]) dX9_gives_1 rfl rfl (by decide) (by rfl) (by rfl) ?_
  have LP2 : ∀ (nLP2 : Nat) (i : Nat) (m : Mu) , (i ≤ 32) → (PT mu m 98 0 i (fun j => mu 108 (A + j))) → (32 < i + nLP2) → WA X g RX9 4 cX9_gives 2 [(0, vC 108), (1, vI (nI A)), (2, vC 98), (3, vI (nI i))] [] m := by
    intro nLP2
    induction nLP2 with
    | zero =>
      intro i m hi hP hm
      exact absurd hm (by omega)
    | succ nLP2 ihLP2 =>
      intro i m hi hP hm
      refine o_iload_n dX9_gives_2 rfl rfl (by rfl) ?_
      refine o_aload_n dX9_gives_3 rfl rfl (by rfl) ?_
      refine o_alen (v := nI 32) dX9_gives_4 rfl (by decide) (by rfl) (by rfl) ?_
      refine o_icmp_ge (tgt := 22) dX9_gives_5 (by decide) rfl (fun (c5 : (nI 32) ≤ (nI i)) => ?_) (fun (c5 : ¬ (nI 32) ≤ (nI i)) => ?_)
      · skip
        have hk2 := nI_dec2 c5 (by omega) (by decide)
        have e2 : i = 32 := by omega
        rw [e2] at hP
        refine o_iload_n dX9_gives_22 rfl rfl (by rfl) ?_
        refine o_aload_n dX9_gives_23 rfl rfl (by rfl) ?_
        refine o_alen (v := nI 32) dX9_gives_24 rfl (by decide) (by rfl) (by rfl) ?_
        refine o_iadd dX9_gives_25 rfl ?_
        exact o_iret hq dX9_gives_26 ⟨nI_add A 32, hP⟩
      · skip
        have hk2 := nI_dec c5 (by omega) (by decide)
        refine o_aload_n dX9_gives_8 rfl rfl (by rfl) ?_
        refine o_iload_n dX9_gives_9 rfl rfl (by rfl) ?_
        refine o_aload_n dX9_gives_10 rfl rfl (by rfl) ?_
        refine o_iload_n dX9_gives_11 rfl rfl (by rfl) ?_
        refine o_iload_n dX9_gives_12 rfl rfl (by rfl) ?_
        refine o_iadd dX9_gives_13 rfl ?_
        refine o_iald dX9_gives_14 rfl (by decide) (by rfl) (by rfl) (by rw [nI_add]; exact vp_in_nI (by omega) (by decide)) ?_
        refine o_iast dX9_gives_15 rfl (by decide) (by rfl) (by rfl) (vp_in_nI (by omega) (by decide)) ?_
        refine o_iinc (v := nI (i + 1)) (L' := [(0, vC 108), (1, vI (nI A)), (2, vC 98), (3, vI (nI (i + 1)))]) dX9_gives_16 rfl (by rfl) (by exact nI_1 i) (by decide) (by rfl) (by rfl) ?_
        refine o_goto (tgt := 2) dX9_gives_19 (by decide) ?_
        rw [nI_add, nI_clamp (by omega), nI_clamp (by omega)]
        exact ihLP2 (i + 1) _ (by omega) (PT.go (by omega) (by rw [hP.1 108 (by decide)]) hP) (by omega)
  exact LP2 33 0 _ (by omega) (PT.nil _ _ _ _) (by omega)
def IMG (mu m : Mu) : Prop := (∀ j, j < 3 → m 108 j = mu 95 j) ∧ (∀ j, j < 20 → m 108 (3 + j) = mu 96 j) ∧ (∀ j, j < 18 → m 108 (23 + j) = mu 97 j) ∧ (∀ j, j < 32 → m 108 (41 + j) = mu 98 j) ∧ m 108 73 = mu 94 1 ∧ m 108 74 = mu 94 3 ∧ m 108 75 = mu 94 5 ∧ m 94 36 = 1 ∧ (∀ j, j ≠ 36 → m 94 j = mu 94 j) ∧ ∀ q, q ≠ 94 → q ≠ 108 → m q = mu q
theorem IMG.mk {mu s1 s2 s3 s4 : Mu} (p1 : PT mu s1 108 0 3 (mu 95)) (p2 : PT s1 s2 108 3 20 (s1 96)) (p3 : PT s2 s3 108 23 18 (s2 97)) (p4 : PT s3 s4 108 41 32 (s3 98)) : IMG mu (upF (upF (upF (upF s4 108 73 (s4 94 1)) 108 74 (s4 94 3)) 108 75 (s4 94 5)) 94 36 1) := by
  have q2 : ∀ q, q ≠ 108 → s2 q = mu q := fun q h => (p2.1 q h).trans (p1.1 q h)
  have q3 : ∀ q, q ≠ 108 → s3 q = mu q := fun q h => (p3.1 q h).trans (q2 q h)
  have q4 : ∀ q, q ≠ 108 → s4 q = mu q := fun q h => (p4.1 q h).trans (q3 q h)
  have e : ∀ j, j < 73 → upF (upF (upF (upF s4 108 73 (s4 94 1)) 108 74 (s4 94 3)) 108 75 (s4 94 5)) 94 36 1 108 j = s4 108 j := fun j hj => by
    rw [upF_k (by decide), upF_i (by omega), upF_i (by omega), upF_i (by omega)]
  refine ⟨fun j hj => ?_, fun j hj => ?_, fun j hj => ?_, fun j hj => ?_, ?_, ?_, ?_, upF_s, fun j hj => ?_, fun q h1 h2 => ?_⟩
  · rw [e j (by omega), p4.2.1 j (by omega), p3.2.1 j (by omega), p2.2.1 j (by omega)]
    have := p1.2.2 j hj
    rw [Nat.zero_add] at this
    exact this
  · rw [e _ (by omega), p4.2.1 _ (by omega), p3.2.1 _ (by omega), p2.2.2 j hj, p1.1 96 (by decide)]
  · rw [e _ (by omega), p4.2.1 _ (by omega), p3.2.2 j hj, q2 97 (by decide)]
  · rw [e _ (by omega), p4.2.2 j hj, q3 98 (by decide)]
  · show s4 94 1 = _; rw [q4 94 (by decide)]
  · show s4 94 3 = _; rw [q4 94 (by decide)]
  · show s4 94 5 = _; rw [q4 94 (by decide)]
  · rw [upF_i hj, upF_k (by decide), upF_k (by decide), upF_k (by decide), q4 94 (by decide)]
  · rw [upF_k h1, upF_k h2, upF_k h2, upF_k h2, q4 q h2]
def RST (mu m : Mu) : Prop := (∀ j, j < 3 → m 95 j = mu 108 j) ∧ (∀ j, j < 20 → m 96 j = mu 108 (3 + j)) ∧ (∀ j, j < 18 → m 97 j = mu 108 (23 + j)) ∧ (∀ j, j < 32 → m 98 j = mu 108 (41 + j)) ∧ m 94 1 = mu 108 73 ∧ m 94 3 = mu 108 74 ∧ m 94 5 = mu 108 75 ∧ (∀ j, j ≠ 1 → j ≠ 3 → j ≠ 5 → m 94 j = mu 94 j) ∧ ∀ q, (q < 94 ∨ 98 < q) → m q = mu q
theorem RST.mk {mu s1 s2 s3 s4 : Mu} (p1 : PT mu s1 95 0 3 (fun j => mu 108 (0 + j))) (p2 : PT s1 s2 96 0 20 (fun j => s1 108 (3 + j))) (p3 : PT s2 s3 97 0 18 (fun j => s2 108 (23 + j))) (p4 : PT s3 s4 98 0 32 (fun j => s3 108 (41 + j))) : RST mu (upF (upF (upF s4 94 1 (s4 108 73)) 94 3 (s4 108 74)) 94 5 (s4 108 75)) := by
  have z : ∀ {a b : Mu} {k n : Nat} {V : Vc}, PT a b k 0 n V → ∀ j, j < n → b k j = V j := fun h j hj => by
    have := h.2.2 j hj
    rw [Nat.zero_add] at this
    exact this
  have o4 : ∀ q, q ≠ 94 → upF (upF (upF s4 94 1 (s4 108 73)) 94 3 (s4 108 74)) 94 5 (s4 108 75) q = s4 q := fun q h => by rw [upF_k h, upF_k h, upF_k h]
  have e1 : s1 108 = mu 108 := p1.1 108 (by decide)
  have e2 : s2 108 = mu 108 := (p2.1 108 (by decide)).trans e1
  have e3 : s3 108 = mu 108 := (p3.1 108 (by decide)).trans e2
  have e4 : s4 108 = mu 108 := (p4.1 108 (by decide)).trans e3
  have e94 : s4 94 = mu 94 := (p4.1 94 (by decide)).trans ((p3.1 94 (by decide)).trans ((p2.1 94 (by decide)).trans (p1.1 94 (by decide))))
  refine ⟨fun j hj => ?_, fun j hj => ?_, fun j hj => ?_, fun j hj => ?_, ?_, ?_, ?_, fun j h1 h3 h5 => ?_, fun q hq => ?_⟩
  · rw [o4 95 (by decide), p4.1 95 (by decide), p3.1 95 (by decide), p2.1 95 (by decide), z p1 j hj, Nat.zero_add]
  · rw [o4 96 (by decide), p4.1 96 (by decide), p3.1 96 (by decide), z p2 j hj, e1]
  · rw [o4 97 (by decide), p4.1 97 (by decide), z p3 j hj, e2]
  · rw [o4 98 (by decide), z p4 j hj, e3]
  · show s4 108 73 = _; rw [e4]
  · show s4 108 74 = _; rw [e4]
  · show s4 108 75 = _; rw [e4]
  · rw [upF_i h5, upF_i h3, upF_i h1, e94]
  · rw [o4 q (by omega), p4.1 q (by omega), p3.1 q (by omega), p2.1 q (by omega), p1.1 q (by omega)]
set_option maxHeartbeats 4000000 in
set_option maxRecDepth 100000 in
theorem c_X9_image (mu : Mu) : Con yX9_image cX9_image 2 (some .int) 1 [vC 94] mu (fun r mu2 => r = 1 ∧ IMG mu mu2) := by
  refine con_of (own := RX9) (by decide) rfl (Nat.le_of_ble_eq_true rfl) (fun X g hq => ?_)
  show WA X g RX9 2 cX9_image 0 [(0, vC 94)] [] mu
  refine o_aload_n dX9_image_0 rfl rfl (by rfl) ?_
  refine o_getC (q := 95) cl_X9_7 dX9_image_1 rfl (by decide) (by rfl) (by rfl) ?_
  refine o_aload_n dX9_image_4 rfl rfl (by rfl) ?_
  refine o_getC (q := 108) cl_X9_53 dX9_image_5 rfl (by decide) (by rfl) (by rfl) ?_
  refine o_iconst (v := 0) dX9_image_8 rfl (by decide) ?_
  refine o_callS cs_X9_saves ct_X9_266 (c_saves_95 _ 0 (by decide)) hq.2.2.2 (Nat.le_of_ble_eq_true rfl) dX9_image_9 rfl rfl rfl (Nat.le_of_ble_eq_true rfl) (fun r10 s1 h10 => ?_)
  obtain ⟨er1, p1⟩ := h10
  subst er1
  refine o_istore_n (L' := [(0, vC 94), (1, vI (nI 3))]) dX9_image_12 rfl rfl (by decide) (by rfl) (by rfl) ?_
  refine o_aload_n dX9_image_13 rfl rfl (by rfl) ?_
  refine o_getC (q := 96) cl_X9_13 dX9_image_14 rfl (by decide) (by rfl) (by rfl) ?_
  refine o_aload_n dX9_image_17 rfl rfl (by rfl) ?_
  refine o_getC (q := 108) cl_X9_53 dX9_image_18 rfl (by decide) (by rfl) (by rfl) ?_
  refine o_iload_n dX9_image_21 rfl rfl (by rfl) ?_
  refine o_callS cs_X9_saves ct_X9_266 (c_saves_96 _ 3 (by decide)) hq.2.2.2 (Nat.le_of_ble_eq_true rfl) dX9_image_22 rfl rfl rfl (Nat.le_of_ble_eq_true rfl) (fun r20 s2 h20 => ?_)
  obtain ⟨er2, p2⟩ := h20
  subst er2
  refine o_istore_n (L' := [(0, vC 94), (1, vI (nI 23))]) dX9_image_25 rfl rfl (by decide) (by rfl) (by rfl) ?_
  refine o_aload_n dX9_image_26 rfl rfl (by rfl) ?_
  refine o_getC (q := 97) cl_X9_16 dX9_image_27 rfl (by decide) (by rfl) (by rfl) ?_
  refine o_aload_n dX9_image_30 rfl rfl (by rfl) ?_
  refine o_getC (q := 108) cl_X9_53 dX9_image_31 rfl (by decide) (by rfl) (by rfl) ?_
  refine o_iload_n dX9_image_34 rfl rfl (by rfl) ?_
  refine o_callS cs_X9_saves ct_X9_266 (c_saves_97 _ 23 (by decide)) hq.2.2.2 (Nat.le_of_ble_eq_true rfl) dX9_image_35 rfl rfl rfl (Nat.le_of_ble_eq_true rfl) (fun r30 s3 h30 => ?_)
  obtain ⟨er3, p3⟩ := h30
  subst er3
  refine o_istore_n (L' := [(0, vC 94), (1, vI (nI 41))]) dX9_image_38 rfl rfl (by decide) (by rfl) (by rfl) ?_
  refine o_aload_n dX9_image_39 rfl rfl (by rfl) ?_
  refine o_getC (q := 98) cl_X9_19 dX9_image_40 rfl (by decide) (by rfl) (by rfl) ?_
  refine o_aload_n dX9_image_43 rfl rfl (by rfl) ?_
  refine o_getC (q := 108) cl_X9_53 dX9_image_44 rfl (by decide) (by rfl) (by rfl) ?_
  refine o_iload_n dX9_image_47 rfl rfl (by rfl) ?_
  refine o_callS cs_X9_saves ct_X9_266 (c_saves_98 _ 41 (by decide)) hq.2.2.2 (Nat.le_of_ble_eq_true rfl) dX9_image_48 rfl rfl rfl (Nat.le_of_ble_eq_true rfl) (fun r40 s4 h40 => ?_)
  obtain ⟨er4, p4⟩ := h40
  subst er4
  refine o_istore_n (L' := [(0, vC 94), (1, vI (nI 73))]) dX9_image_51 rfl rfl (by decide) (by rfl) (by rfl) ?_
  refine o_aload_n dX9_image_52 rfl rfl (by rfl) ?_
  refine o_getC (q := 108) cl_X9_53 dX9_image_53 rfl (by decide) (by rfl) (by rfl) ?_
  refine o_iload_n dX9_image_56 rfl rfl (by rfl) ?_
  refine o_aload_n dX9_image_57 rfl rfl (by rfl) ?_
  refine o_getI cl_X9_68 dX9_image_58 rfl (by decide) (by rfl) (by rfl) ?_
  refine o_iast dX9_image_61 rfl (by decide) (by rfl) (by rfl) (vp_in_nI (n := 73) (by decide) (by decide)) ?_
  refine o_aload_n dX9_image_62 rfl rfl (by rfl) ?_
  refine o_getC (q := 108) cl_X9_53 dX9_image_63 rfl (by decide) (by rfl) (by rfl) ?_
  refine o_iload_n dX9_image_66 rfl rfl (by rfl) ?_
  refine o_iconst (v := 1) dX9_image_67 rfl (by decide) ?_
  refine o_iadd dX9_image_68 rfl ?_
  refine o_aload_n dX9_image_69 rfl rfl (by rfl) ?_
  refine o_getI cl_X9_100 dX9_image_70 rfl (by decide) (by rfl) (by rfl) ?_
  refine o_iast dX9_image_73 rfl (by decide) (by rfl) (by rfl) (vp_in_nI (n := 74) (by decide) (by decide)) ?_
  refine o_aload_n dX9_image_74 rfl rfl (by rfl) ?_
  refine o_getC (q := 108) cl_X9_53 dX9_image_75 rfl (by decide) (by rfl) (by rfl) ?_
  refine o_iload_n dX9_image_78 rfl rfl (by rfl) ?_
  refine o_iconst (v := 2) dX9_image_79 rfl (by decide) ?_
  refine o_iadd dX9_image_80 rfl ?_
  refine o_aload_n dX9_image_81 rfl rfl (by rfl) ?_
  refine o_getI cl_X9_157 dX9_image_82 rfl (by decide) (by rfl) (by rfl) ?_
  refine o_iast dX9_image_85 rfl (by decide) (by rfl) (by rfl) (vp_in_nI (n := 75) (by decide) (by decide)) ?_
  refine o_aload_n dX9_image_86 rfl rfl (by rfl) ?_
  refine o_iconst (v := 1) dX9_image_87 rfl (by decide) ?_
  refine o_put cl_X9_270 cp_X9_36 dX9_image_88 rfl (by decide) (by rfl) (by rfl) (fitZ (Or.inr rfl)) ?_
  refine o_iconst (v := 1) dX9_image_91 rfl (by decide) ?_
  exact o_iret hq dX9_image_92 ⟨rfl, IMG.mk p1 p2 p3 p4⟩
set_option maxHeartbeats 4000000 in
set_option maxRecDepth 100000 in
theorem c_X9_restore (mu : Mu) : Con yX9_restore cX9_restore 2 (some .int) 1 [vC 94] mu (fun r mu2 => (mu 94 36 = 0 ∧ r = -4 ∧ mu2 = mu) ∨ (¬ mu 94 36 = 0 ∧ r = 1 ∧ RST mu mu2)) := by
  refine con_of (own := RX9) (by decide) rfl (Nat.le_of_ble_eq_true rfl) (fun X g hq => ?_)
  show WA X g RX9 2 cX9_restore 0 [(0, vC 94)] [] mu
  refine o_aload_n dX9_restore_0 rfl rfl (by rfl) ?_
  refine o_getI cl_X9_270 dX9_restore_1 rfl (by decide) (by rfl) (by rfl) ?_
  refine o_if_ne (tgt := 10) dX9_restore_4 (by decide) rfl (fun (c4 : ¬ (mu 94 36) = 0) => ?_) (fun (c4 : (mu 94 36) = 0) => ?_)
  · skip
    refine o_aload_n dX9_restore_10 rfl rfl (by rfl) ?_
    refine o_getC (q := 108) cl_X9_53 dX9_restore_11 rfl (by decide) (by rfl) (by rfl) ?_
    refine o_iconst (v := 0) dX9_restore_14 rfl (by decide) ?_
    refine o_aload_n dX9_restore_15 rfl rfl (by rfl) ?_
    refine o_getC (q := 95) cl_X9_7 dX9_restore_16 rfl (by decide) (by rfl) (by rfl) ?_
    refine o_callS cs_X9_gives ct_X9_273 (c_gives_95 _ 0 (by decide)) hq.2.2.2 (Nat.le_of_ble_eq_true rfl) dX9_restore_19 rfl rfl rfl (Nat.le_of_ble_eq_true rfl) (fun r10 s1 h10 => ?_)
    obtain ⟨er1, p1⟩ := h10
    subst er1
    refine o_istore_n (L' := [(0, vC 94), (1, vI (nI 3))]) dX9_restore_22 rfl rfl (by decide) (by rfl) (by rfl) ?_
    refine o_aload_n dX9_restore_23 rfl rfl (by rfl) ?_
    refine o_getC (q := 108) cl_X9_53 dX9_restore_24 rfl (by decide) (by rfl) (by rfl) ?_
    refine o_iload_n dX9_restore_27 rfl rfl (by rfl) ?_
    refine o_aload_n dX9_restore_28 rfl rfl (by rfl) ?_
    refine o_getC (q := 96) cl_X9_13 dX9_restore_29 rfl (by decide) (by rfl) (by rfl) ?_
    refine o_callS cs_X9_gives ct_X9_273 (c_gives_96 _ 3 (by decide)) hq.2.2.2 (Nat.le_of_ble_eq_true rfl) dX9_restore_32 rfl rfl rfl (Nat.le_of_ble_eq_true rfl) (fun r20 s2 h20 => ?_)
    obtain ⟨er2, p2⟩ := h20
    subst er2
    refine o_istore_n (L' := [(0, vC 94), (1, vI (nI 23))]) dX9_restore_35 rfl rfl (by decide) (by rfl) (by rfl) ?_
    refine o_aload_n dX9_restore_36 rfl rfl (by rfl) ?_
    refine o_getC (q := 108) cl_X9_53 dX9_restore_37 rfl (by decide) (by rfl) (by rfl) ?_
    refine o_iload_n dX9_restore_40 rfl rfl (by rfl) ?_
    refine o_aload_n dX9_restore_41 rfl rfl (by rfl) ?_
    refine o_getC (q := 97) cl_X9_16 dX9_restore_42 rfl (by decide) (by rfl) (by rfl) ?_
    refine o_callS cs_X9_gives ct_X9_273 (c_gives_97 _ 23 (by decide)) hq.2.2.2 (Nat.le_of_ble_eq_true rfl) dX9_restore_45 rfl rfl rfl (Nat.le_of_ble_eq_true rfl) (fun r30 s3 h30 => ?_)
    obtain ⟨er3, p3⟩ := h30
    subst er3
    refine o_istore_n (L' := [(0, vC 94), (1, vI (nI 41))]) dX9_restore_48 rfl rfl (by decide) (by rfl) (by rfl) ?_
    refine o_aload_n dX9_restore_49 rfl rfl (by rfl) ?_
    refine o_getC (q := 108) cl_X9_53 dX9_restore_50 rfl (by decide) (by rfl) (by rfl) ?_
    refine o_iload_n dX9_restore_53 rfl rfl (by rfl) ?_
    refine o_aload_n dX9_restore_54 rfl rfl (by rfl) ?_
    refine o_getC (q := 98) cl_X9_19 dX9_restore_55 rfl (by decide) (by rfl) (by rfl) ?_
    refine o_callS cs_X9_gives ct_X9_273 (c_gives_98 _ 41 (by decide)) hq.2.2.2 (Nat.le_of_ble_eq_true rfl) dX9_restore_58 rfl rfl rfl (Nat.le_of_ble_eq_true rfl) (fun r40 s4 h40 => ?_)
    obtain ⟨er4, p4⟩ := h40
    subst er4
    refine o_istore_n (L' := [(0, vC 94), (1, vI (nI 73))]) dX9_restore_61 rfl rfl (by decide) (by rfl) (by rfl) ?_
    refine o_aload_n dX9_restore_62 rfl rfl (by rfl) ?_
    refine o_aload_n dX9_restore_63 rfl rfl (by rfl) ?_
    refine o_getC (q := 108) cl_X9_53 dX9_restore_64 rfl (by decide) (by rfl) (by rfl) ?_
    refine o_iload_n dX9_restore_67 rfl rfl (by rfl) ?_
    refine o_iald dX9_restore_68 rfl (by decide) (by rfl) (by rfl) (vp_in_nI (n := 73) (by decide) (by decide)) ?_
    refine o_put cl_X9_68 cp_X9_1 dX9_restore_69 rfl (by decide) (by rfl) (by rfl) fitI ?_
    refine o_aload_n dX9_restore_72 rfl rfl (by rfl) ?_
    refine o_aload_n dX9_restore_73 rfl rfl (by rfl) ?_
    refine o_getC (q := 108) cl_X9_53 dX9_restore_74 rfl (by decide) (by rfl) (by rfl) ?_
    refine o_iload_n dX9_restore_77 rfl rfl (by rfl) ?_
    refine o_iconst (v := 1) dX9_restore_78 rfl (by decide) ?_
    refine o_iadd dX9_restore_79 rfl ?_
    refine o_iald dX9_restore_80 rfl (by decide) (by rfl) (by rfl) (vp_in_nI (n := 74) (by decide) (by decide)) ?_
    refine o_put cl_X9_100 cp_X9_3 dX9_restore_81 rfl (by decide) (by rfl) (by rfl) fitI ?_
    refine o_aload_n dX9_restore_84 rfl rfl (by rfl) ?_
    refine o_aload_n dX9_restore_85 rfl rfl (by rfl) ?_
    refine o_getC (q := 108) cl_X9_53 dX9_restore_86 rfl (by decide) (by rfl) (by rfl) ?_
    refine o_iload_n dX9_restore_89 rfl rfl (by rfl) ?_
    refine o_iconst (v := 2) dX9_restore_90 rfl (by decide) ?_
    refine o_iadd dX9_restore_91 rfl ?_
    refine o_iald dX9_restore_92 rfl (by decide) (by rfl) (by rfl) (vp_in_nI (n := 75) (by decide) (by decide)) ?_
    refine o_put cl_X9_157 cp_X9_5 dX9_restore_93 rfl (by decide) (by rfl) (by rfl) fitI ?_
    refine o_iconst (v := 1) dX9_restore_96 rfl (by decide) ?_
    exact o_iret hq dX9_restore_97 (Or.inr ⟨c4, rfl, RST.mk p1 p2 p3 p4⟩)
  · skip
    refine o_bipush (v := (-4)) dX9_restore_7 rfl (by decide) ?_
    exact o_iret hq dX9_restore_9 (Or.inl ⟨c4, rfl, rfl⟩)
