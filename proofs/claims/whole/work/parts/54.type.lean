/-! ===== type ===== -/
def byV (w : Int64) (k : Nat) : Int32 := (w.toUInt64 >>> ((8 * nI k).toInt64.toUInt64 &&& Int64.toUInt64 63)).toInt64.toInt32 &&& 255
def tyB (w : Int64) : Nat → Bool
  | 0 => true
  | k + 1 => tyB w k && inB (byV w k) 32 126
theorem tyB_no {w : Int64} {k : Nat} (h : ¬ inB (byV w k) 32 126 = true) : ∀ {n : Nat}, k < n → tyB w n = false
  | n + 1, hn => by
    show (tyB w n && inB (byV w n) 32 126) = false
    by_cases e : k = n
    · subst e
      rw [Bool.eq_false_iff.mpr h, Bool.and_false]
    · rw [tyB_no h (n := n) (by omega), Bool.false_and]
theorem tyB_s {w : Int64} {k : Nat} (h1 : tyB w k = true) (h2 : inB (byV w k) 32 126 = true) : tyB w (k + 1) = true := by
  show (tyB w k && inB (byV w k) 32 126) = true
  rw [h1, h2]; rfl
/-- t bytes appended -/
def APD (mu m : Mu) (w : Int64) (z N t : Nat) : Prop := m 70 1 = nI (z + t) ∧ (∀ j, j ≠ 1 → m 70 j = mu 70 j) ∧ (∀ q, q ≠ 70 → q ≠ 71 → m q = mu q) ∧ (∀ j, (j < z ∨ z + t ≤ j) → m 71 j = mu 71 j) ∧ ∀ i, i < t → m 71 (z + i) = byV w (N - 1 - i)
theorem APD.go {mu m m2 : Mu} {w : Int64} {z N t : Nat} (h : APD mu m w z N t) (h2 : m2 = upF (upF m 71 (z + t) (byV w (N - 1 - t))) 70 1 (nI (z + t + 1))) : APD mu m2 w z N (t + 1) := by
  obtain ⟨a1, a2, a3, a4, a5⟩ := h
  subst h2
  refine ⟨upF_s, fun j hj => by rw [upF_i hj, upF_k (by decide)]; exact a2 j hj, fun q q1 q2 => by rw [upF_k q1, upF_k q2]; exact a3 q q1 q2, fun j hj => by rw [upF_k (by decide), upF_i (by omega)]; exact a4 j (by omega), fun i hi => ?_⟩
  rw [upF_k (by decide)]
  by_cases e : i = t
  · subst e
    exact upF_s
  · rw [upF_i (by omega)]
    exact a5 i (by omega)
theorem dec1 (x : Int32) : x + Int32.ofInt (-1) = x - 1 := (Int32.sub_eq_add_neg x 1).symm
def TYP (mu m : Mu) (w : Int64) (n : Int32) (z : Nat) (r : Int32) : Prop := (¬ inB n 1 8 = true ∧ r = -1 ∧ m = mu) ∨ ∃ N, n = nI N ∧ 1 ≤ N ∧ N ≤ 8 ∧ ((tyB w N = false ∧ r = -1 ∧ m = mu) ∨ (tyB w N = true ∧ ((60 < z + N ∧ r = -3 ∧ m = mu) ∨ (z + N ≤ 60 ∧ r = nI (z + N) ∧ APD mu m w z N N))))
set_option maxHeartbeats 4000000 in
set_option maxRecDepth 100000 in
theorem c_X8_byteOf (mu : Mu) (w : Int64) (k : Nat) : Con yX8_byteOf cX8_byteOf 3 (some .int) 0 [vJ w, vI (nI k)] mu (fun r mu2 => mu2 = mu ∧ r = byV w k) := by
  refine con_of (own := RX8) (by decide) rfl (Nat.le_of_ble_eq_true rfl) (fun X g hq => ?_)
  show WA X g RX8 3 cX8_byteOf 0 [(0, vJ w), (2, vI (nI k))] [] mu
  refine o_lload_n dX8_byteOf_0 rfl rfl (by rfl) ?_
  refine o_bipush (v := 8) dX8_byteOf_1 rfl (by decide) ?_
  refine o_iload_n dX8_byteOf_3 rfl rfl (by rfl) ?_
  refine o_imul dX8_byteOf_4 rfl ?_
  refine o_lushr dX8_byteOf_5 rfl ?_
  refine o_l2i dX8_byteOf_6 rfl ?_
  refine o_sipush (v := 255) dX8_byteOf_7 rfl (by decide) ?_
  refine o_iand dX8_byteOf_10 rfl ?_
  exact o_iret hq dX8_byteOf_11 ⟨rfl, rfl⟩
set_option maxHeartbeats 4000000 in
set_option maxRecDepth 100000 in
theorem c_X3_hasRoom (mu : Mu) (n : Int32) : Con yX3_hasRoom cX3_hasRoom 2 (some .boolean) 0 [vC 70, vI n] mu (fun r mu2 => mu2 = mu ∧ r = if decide (¬ 60 < mu 70 1 + n) = true then 1 else 0) := by
  refine con_of (own := RX3) (by decide) rfl (Nat.le_of_ble_eq_true rfl) (fun X g hq => ?_)
  show WA X g RX3 2 cX3_hasRoom 0 [(0, vC 70), (1, vI n)] [] mu
  refine o_aload_n dX3_hasRoom_0 rfl rfl (by rfl) ?_
  refine o_getI cl_X3_27 dX3_hasRoom_1 rfl (by decide) (by rfl) (by rfl) ?_
  refine o_iload_n dX3_hasRoom_4 rfl rfl (by rfl) ?_
  refine o_iadd dX3_hasRoom_5 rfl ?_
  refine o_bipush (v := 60) dX3_hasRoom_6 rfl (by decide) ?_
  refine o_icmp_gt (tgt := 15) dX3_hasRoom_8 (by decide) rfl (fun (c8 : 60 < ((mu 70 1) + n)) => ?_) (fun (c8 : ¬ 60 < ((mu 70 1) + n)) => ?_)
  · skip
    refine o_iconst (v := 0) dX3_hasRoom_15 rfl (by decide) ?_
    exact o_zret hq dX3_hasRoom_16 (Or.inl rfl) ⟨rfl, (if_neg (fun h => absurd c8 (of_decide_eq_true h))).symm⟩
  · skip
    refine o_iconst (v := 1) dX3_hasRoom_11 rfl (by decide) ?_
    refine o_goto (tgt := 16) dX3_hasRoom_12 (by decide) ?_
    exact o_zret hq dX3_hasRoom_16 (Or.inr rfl) ⟨rfl, (if_pos (decide_eq_true c8)).symm⟩
set_option maxHeartbeats 4000000 in
set_option maxRecDepth 100000 in
theorem c_X3_append (mu : Mu) (b : Int32) (z : Nat) (ez : mu 70 1 = nI z) (hz : z < 60) : ConV yX3_append cX3_append 2 0 [vC 70, vI b] mu (fun mu2 => mu2 = upF (upF mu 71 z b) 70 1 (nI (z + 1))) := by
  refine conV_of (own := RX3) (by decide) rfl (Nat.le_of_ble_eq_true rfl) (fun X g hq => ?_)
  show WA X g RX3 2 cX3_append 0 [(0, vC 70), (1, vI b)] [] mu
  refine o_aload_n dX3_append_0 rfl rfl (by rfl) ?_
  refine o_getI cl_X3_27 dX3_append_1 rfl (by decide) (by rfl) (by rfl) ?_
  refine o_bipush (v := 60) dX3_append_4 rfl (by decide) ?_
  refine o_icmp_ge (tgt := 29) dX3_append_6 (by decide) rfl (fun (c6 : 60 ≤ (mu 70 1)) => ?_) (fun (c6 : ¬ 60 ≤ (mu 70 1)) => ?_)
  · skip
    rw [ez] at c6
    exact absurd (nI_dec2 (b := 60) c6 (by omega) (by decide)) (by omega)
  · skip
    refine o_aload_n dX3_append_9 rfl rfl (by rfl) ?_
    refine o_getC (q := 71) cl_X3_9 dX3_append_10 rfl (by decide) (by rfl) (by rfl) ?_
    refine o_aload_n dX3_append_13 rfl rfl (by rfl) ?_
    refine o_getI cl_X3_27 dX3_append_14 rfl (by decide) (by rfl) (by rfl) ?_
    refine o_iload_n dX3_append_17 rfl rfl (by rfl) ?_
    refine o_iast dX3_append_18 rfl (by decide) (by rfl) (by rfl) (by rw [ez]; exact vp_in_nI hz (by decide)) ?_
    refine o_aload_n dX3_append_19 rfl rfl (by rfl) ?_
    refine o_dup dX3_append_20 rfl rfl ?_
    refine o_getI cl_X3_27 dX3_append_21 rfl (by decide) (by rfl) (by rfl) ?_
    refine o_iconst (v := 1) dX3_append_24 rfl (by decide) ?_
    refine o_iadd dX3_append_25 rfl ?_
    refine o_put cl_X3_27 cp_X3_1 dX3_append_26 rfl (by decide) (by rfl) (by rfl) fitI ?_
    exact o_vret hq dX3_append_29 (by rw [upF_k (by decide), ez, nI_clamp (by omega), nI_1])
set_option maxHeartbeats 4000000 in
set_option maxRecDepth 100000 in
theorem c_X8_type (mu : Mu) (w : Int64) (n : Int32) (z : Nat) (ez : mu 70 1 = nI z) (hz : z ≤ 60) : Con yX8_type cX8_type 5 (some .int) 1 [vC 0, vJ w, vI n] mu (fun r mu2 => TYP mu mu2 w n z r) := by
  refine con_of (own := RX8) (by decide) rfl (Nat.le_of_ble_eq_true rfl) (fun X g hq => ?_)
  show WA X g RX8 5 cX8_type 0 [(0, vC 0), (1, vJ w), (3, vI n)] [] mu
  refine o_iload_n dX8_type_0 rfl rfl (by rfl) ?_
  refine o_iconst (v := 1) dX8_type_1 rfl (by decide) ?_
  refine o_bipush (v := 8) dX8_type_2 rfl (by decide) ?_
  refine o_callS cs_X8_isIn ct_X8_60 (c_isIn _ n 1 8) hq.2.2.2 (Nat.le_of_ble_eq_true rfl) dX8_type_4 rfl rfl rfl (Nat.le_of_ble_eq_true rfl) (fun r1 mu1 h1 => ?_)
  obtain ⟨em, h1⟩ := h1
  rw [em]
  refine o_if_ne (tgt := 12) dX8_type_7 (by decide) rfl (fun (c7 : ¬ r1 = 0) => ?_) (fun (c7 : r1 = 0) => ?_)
  · skip
    have b7 := (if10 h1).2 c7
    obtain ⟨N, eN, hN1, hN2⟩ := inB_nI (l := 1) (m := 8) (by decide) (by decide) b7
    refine o_iconst (v := 0) dX8_type_12 rfl (by decide) ?_
    refine o_istore (L' := [(0, vC 0), (1, vJ w), (3, vI n), (4, vI 0)]) dX8_type_13 rfl (by decide) (by rfl) (by rfl) ?_
    have LP15 : ∀ (nLP15 : Nat) (k : Nat) , (k ≤ N) → (tyB w k = true) → (N < k + nLP15) → WA X g RX8 5 cX8_type 15 [(0, vC 0), (1, vJ w), (3, vI n), (4, vI (nI k))] [] mu := by
      intro nLP15
      induction nLP15 with
      | zero =>
        intro k hk hB hm
        exact absurd hm (by omega)
      | succ nLP15 ihLP15 =>
        intro k hk hB hm
        refine o_iload dX8_type_15 rfl (by rfl) ?_
        refine o_iload_n dX8_type_17 rfl rfl (by rfl) ?_
        refine o_icmp_ge (tgt := 45) dX8_type_18 (by decide) rfl (fun (c18 : n ≤ (nI k)) => ?_) (fun (c18 : ¬ n ≤ (nI k)) => ?_)
        · skip
          rw [eN] at c18
          have hk2 := nI_dec2 c18 (by omega) (by omega)
          have hkN : k = N := by omega
          rw [hkN] at hB
          refine o_aload_n dX8_type_45 rfl rfl (by rfl) ?_
          refine o_getC (q := 70) cl_X8_49 dX8_type_46 rfl (by decide) (by rfl) (by rfl) ?_
          refine o_iload_n dX8_type_49 rfl rfl (by rfl) ?_
          refine o_callV cs_X3_hasRoom cv_X8_112 (c_X3_hasRoom _ _) hq.2.2.2 (Nat.le_of_ble_eq_true rfl) dX8_type_50 rfl (by decide) (by rfl) (by rfl) (by rfl) rfl rfl (Nat.le_of_ble_eq_true rfl) (fun rh mu2 hh => ?_)
          obtain ⟨em, hh⟩ := hh
          rw [em]
          refine o_if_ne (tgt := 59) dX8_type_53 (by decide) rfl (fun (c53 : ¬ rh = 0) => ?_) (fun (c53 : rh = 0) => ?_)
          · skip
            have b53 := (if10 hh).2 c53
            have hb3 : ¬ 60 < z + N := fun h9 => of_decide_eq_true b53 (by rw [ez, eN, nI_add]; exact nI_lt (a := 60) h9 (by omega))
            refine o_iload_n dX8_type_59 rfl rfl (by rfl) ?_
            refine o_iconst (v := 1) dX8_type_60 rfl (by decide) ?_
            refine o_isub dX8_type_61 rfl ?_
            refine o_istore (L' := [(0, vC 0), (1, vJ w), (3, vI n), (4, vI (n - 1))]) dX8_type_62 rfl (by decide) (by rfl) (by rfl) ?_
            have LP64 : ∀ (nLP64 : Nat) (t : Nat) (m : Mu) , (t ≤ N) → (APD mu m w z N t) → (N < t + nLP64) → WA X g RX8 5 cX8_type 64 [(0, vC 0), (1, vJ w), (3, vI n), (4, vI (nI (N - t) - 1))] [] m := by
              intro nLP64
              induction nLP64 with
              | zero =>
                intro t m ht hA hm
                exact absurd hm (by omega)
              | succ nLP64 ihLP64 =>
                intro t m ht hA hm
                refine o_iload dX8_type_64 rfl (by rfl) ?_
                refine o_if_lt (tgt := 88) dX8_type_66 (by decide) rfl (fun (c66 : (nI (N - t) - 1) < 0) => ?_) (fun (c66 : ¬ (nI (N - t) - 1) < 0) => ?_)
                · skip
                  have ht2 : t = N := by by_cases h9 : t < N; exact absurd c66 (by rw [show nI (N - t) - 1 = nI (N - t - 1) from pk_sub (b := 1) (by omega)]; exact nI_nlt (b := 0) (by omega) (by omega)); omega
                  rw [ht2] at hA
                  refine o_aload_n dX8_type_88 rfl rfl (by rfl) ?_
                  refine o_getC (q := 70) cl_X8_49 dX8_type_89 rfl (by decide) (by rfl) (by rfl) ?_
                  refine o_getI cl_X8_119 dX8_type_92 rfl (by decide) (by rfl) (by rfl) ?_
                  exact o_iret hq dX8_type_95 (Or.inr ⟨N, eN, hN1, hN2, Or.inr ⟨hB, Or.inr ⟨by omega, hA.1, hA⟩⟩⟩)
                · skip
                  have ht2 : t < N := by by_cases h9 : t < N; exact h9; rw [show t = N by omega, show N - N = 0 by omega] at c66; exact absurd (by decide) c66
                  rw [show nI (N - t) - 1 = nI (N - 1 - t) from (pk_sub (b := 1) (by omega)).trans (by rw [show N - t - 1 = N - 1 - t by omega])]
                  refine o_aload_n dX8_type_69 rfl rfl (by rfl) ?_
                  refine o_getC (q := 70) cl_X8_49 dX8_type_70 rfl (by decide) (by rfl) (by rfl) ?_
                  refine o_lload_n dX8_type_73 rfl rfl (by rfl) ?_
                  refine o_iload dX8_type_74 rfl (by rfl) ?_
                  refine o_callS cs_X8_byteOf ct_X8_108 (c_X8_byteOf _ w (N - 1 - t)) hq.2.2.2 (Nat.le_of_ble_eq_true rfl) dX8_type_76 rfl rfl rfl (Nat.le_of_ble_eq_true rfl) (fun rb mb hb => ?_)
                  obtain ⟨em, hb⟩ := hb
                  rw [em]
                  subst hb
                  refine o_callVV cs_X3_append cv_X8_115 (c_X3_append _ _ (z + t) hA.1 (by omega)) hq.2.2.2 (Nat.le_of_ble_eq_true rfl) dX8_type_79 rfl (by decide) (by rfl) (by rfl) (by rfl) rfl rfl (Nat.le_of_ble_eq_true rfl) (fun mP hP => ?_)
                  have hA2 := hA.go hP
                  refine o_iinc (v := nI (N - (t + 1)) - 1) (L' := [(0, vC 0), (1, vJ w), (3, vI n), (4, vI (nI (N - (t + 1)) - 1))]) dX8_type_82 rfl (by rfl) (by exact (by rw [show N - (t + 1) = N - 1 - t by omega]; exact dec1 _)) (by decide) (by rfl) (by rfl) ?_
                  refine o_goto (tgt := 64) dX8_type_85 (by decide) ?_
                  exact ihLP64 (t + 1) _ (by omega) hA2 (by omega)
            have e40 : n - 1 = nI (N - 0) - 1 := by rw [eN]; rfl
            rw [e40]
            exact LP64 (N + 1) 0 _ (by omega) ⟨ez, fun _ _ => rfl, fun _ _ _ => rfl, fun _ _ => rfl, fun i hi => by omega⟩ (by omega)
          · skip
            have b53 := (if10 hh).1 c53
            have hb3 : 60 < z + N := Decidable.not_not.mp (fun h9 => b53 (decide_eq_true (by rw [ez, eN, nI_add]; exact nI_nlt (a := 60) (by omega) (by omega))))
            refine o_bipush (v := (-3)) dX8_type_56 rfl (by decide) ?_
            exact o_iret hq dX8_type_58 (Or.inr ⟨N, eN, hN1, hN2, Or.inr ⟨hB, Or.inl ⟨hb3, rfl, rfl⟩⟩⟩)
        · skip
          rw [eN] at c18
          have hk2 := nI_dec c18 (by omega) (by omega)
          refine o_lload_n dX8_type_21 rfl rfl (by rfl) ?_
          refine o_iload dX8_type_22 rfl (by rfl) ?_
          refine o_callS cs_X8_byteOf ct_X8_108 (c_X8_byteOf _ w k) hq.2.2.2 (Nat.le_of_ble_eq_true rfl) dX8_type_24 rfl rfl rfl (Nat.le_of_ble_eq_true rfl) (fun rb mu5 hb => ?_)
          obtain ⟨em, hb⟩ := hb
          rw [em]
          subst hb
          refine o_bipush (v := 32) dX8_type_27 rfl (by decide) ?_
          refine o_bipush (v := 126) dX8_type_29 rfl (by decide) ?_
          refine o_callS cs_X8_isIn ct_X8_60 (c_isIn _ (byV w k) 32 126) hq.2.2.2 (Nat.le_of_ble_eq_true rfl) dX8_type_31 rfl rfl rfl (Nat.le_of_ble_eq_true rfl) (fun r6 mu6 h6 => ?_)
          obtain ⟨em, h6⟩ := h6
          rw [em]
          refine o_if_ne (tgt := 39) dX8_type_34 (by decide) rfl (fun (c34 : ¬ r6 = 0) => ?_) (fun (c34 : r6 = 0) => ?_)
          · skip
            have b34 := (if10 h6).2 c34
            refine o_iinc (v := nI (k + 1)) (L' := [(0, vC 0), (1, vJ w), (3, vI n), (4, vI (nI (k + 1)))]) dX8_type_39 rfl (by rfl) (by exact nI_1 k) (by decide) (by rfl) (by rfl) ?_
            refine o_goto (tgt := 15) dX8_type_42 (by decide) ?_
            exact ihLP15 (k + 1) (by omega) (tyB_s hB b34) (by omega)
          · skip
            have b34 := (if10 h6).1 c34
            refine o_iconst (v := (-1)) dX8_type_37 rfl (by decide) ?_
            exact o_iret hq dX8_type_38 (Or.inr ⟨N, eN, hN1, hN2, Or.inl ⟨tyB_no b34 hk2, rfl, rfl⟩⟩)
    exact LP15 (N + 1) 0 (by omega) rfl (by omega)
  · skip
    have b7 := (if10 h1).1 c7
    refine o_iconst (v := (-1)) dX8_type_10 rfl (by decide) ?_
    exact o_iret hq dX8_type_11 (Or.inl ⟨b7, rfl, rfl⟩)
