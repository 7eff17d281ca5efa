/-! ===== the reference: type ===== -/
theorem g255 (w i : Nat) (h : 8 ≤ w) : (BitVec.ofNat w 255).getLsbD i = decide (i < 8) := by
  rw [BitVec.getLsbD_ofNat, show (255 : Nat) = 2 ^ 8 - 1 from rfl, Nat.testBit_two_pow_sub_one]
  by_cases q : i < 8
  · simp [q]; omega
  · simp [q]
theorem bits (w : BitVec 64) (s : Nat) (hs : s ≤ 56) : (w.sshiftRight s &&& 255#64) = ((w >>> s).setWidth 32 &&& 255#32).signExtend 64 := by
  apply BitVec.eq_of_getLsbD_eq
  intro i hi
  have hm : ∀ x : BitVec 32, (x &&& 255#32).msb = false := by intro x; rw [BitVec.msb_and]; exact Bool.and_false _
  rw [BitVec.getLsbD_and, g255 64 i (by omega), BitVec.getLsbD_signExtend, hm, BitVec.getLsbD_and, g255 32 i (by omega)]
  by_cases q : i < 8
  · rw [decide_eq_true q, Bool.and_true, Bool.and_true, if_pos (show i < 32 by omega), decide_eq_true (show i < 64 by omega), Bool.true_and, BitVec.getLsbD_setWidth, decide_eq_true (show i < 32 by omega), Bool.true_and, BitVec.getLsbD_sshiftRight, BitVec.getLsbD_ushiftRight, if_pos (by omega)]
    simp
    omega
  · rw [decide_eq_false q, Bool.and_false, Bool.and_false]
    simp
def byL (w : Int64) (k : Nat) : Int64 := (w >>> ((8 * nI k).toInt64 &&& 63)) &&& 255
theorem by_l (w : Int64) (k n : Nat) (h : (((8 * nI k).toInt64 &&& 63).toBitVec.smod 64).toNat = n) : (byL w k).toBitVec = w.toBitVec.sshiftRight n &&& 255#64 := by
  unfold byL
  rw [Int64.toBitVec_and, Int64.toBitVec_shiftRight, BitVec.sshiftRight', h]
  rfl
theorem by_v (w : Int64) (k n : Nat) (h : (((8 * nI k).toInt64.toUInt64 &&& Int64.toUInt64 63).toBitVec % 64).toNat = n) : (byV w k).toInt64.toBitVec = ((w.toBitVec >>> n).setWidth 32 &&& 255#32).signExtend 64 := by
  unfold byV
  rw [Int32.toBitVec_toInt64, Int32.toBitVec_and, Int64.toBitVec_toInt32, UInt64.toBitVec_toInt64, UInt64.toBitVec_shiftRight, BitVec.ushiftRight_eq', h, BitVec.signExtend_eq_setWidth_of_le (w.toUInt64.toBitVec >>> n) (by decide)]
  rfl
theorem by_eq (w : Int64) (k : Nat) (hk : k < 8) : byL w k = (byV w k).toInt64 := by
  apply Int64.toBitVec_inj.mp
  rcases (show k = 0 ∨ k = 1 ∨ k = 2 ∨ k = 3 ∨ k = 4 ∨ k = 5 ∨ k = 6 ∨ k = 7 by omega) with h | h | h | h | h | h | h | h
  · subst h; rw [by_l w 0 0 (by decide), by_v w 0 0 (by decide)]; exact bits _ _ (by decide)
  · subst h; rw [by_l w 1 8 (by decide), by_v w 1 8 (by decide)]; exact bits _ _ (by decide)
  · subst h; rw [by_l w 2 16 (by decide), by_v w 2 16 (by decide)]; exact bits _ _ (by decide)
  · subst h; rw [by_l w 3 24 (by decide), by_v w 3 24 (by decide)]; exact bits _ _ (by decide)
  · subst h; rw [by_l w 4 32 (by decide), by_v w 4 32 (by decide)]; exact bits _ _ (by decide)
  · subst h; rw [by_l w 5 40 (by decide), by_v w 5 40 (by decide)]; exact bits _ _ (by decide)
  · subst h; rw [by_l w 6 48 (by decide), by_v w 6 48 (by decide)]; exact bits _ _ (by decide)
  · subst h; rw [by_l w 7 56 (by decide), by_v w 7 56 (by decide)]; exact bits _ _ (by decide)
theorem by_i (w : Int64) (k : Nat) (hk : k < 8) : (byL w k).toInt32 = byV w k := by
  rw [by_eq w k hk]
  exact Int32.toInt32_toInt64 _
def APR (mu m : Mu) (w : Int64) (z N t : Nat) : Prop := m 94 8 = nI (z + t) ∧ (∀ j, j ≠ 8 → m 94 j = mu 94 j) ∧ (∀ q, q ≠ 94 → q ≠ 99 → m q = mu q) ∧ (∀ j, (j < z ∨ z + t ≤ j) → m 99 j = mu 99 j) ∧ ∀ i, i < t → m 99 (z + i) = byV w (N - 1 - i)
theorem APR.go {mu m m2 : Mu} {w : Int64} {z N t ix : Nat} {x y : Int32} (h : APR mu m w z N t) (hi : ix = z + t) (hx : x = byV w (N - 1 - t)) (hy : y = nI (z + t + 1)) (h2 : m2 = upF (upF m 99 ix x) 94 8 y) : APR mu m2 w z N (t + 1) := by
  obtain ⟨a1, a2, a3, a4, a5⟩ := h
  subst h2 hi hx hy
  refine ⟨upF_s, fun j hj => by rw [upF_i hj, upF_k (by decide)]; exact a2 j hj, fun q q1 q2 => by rw [upF_k q1, upF_k q2]; exact a3 q q1 q2, fun j hj => by rw [upF_k (by decide), upF_i (by omega)]; exact a4 j (by omega), fun i hi => ?_⟩
  rw [upF_k (by decide)]
  by_cases e : i = t
  · subst e
    exact upF_s
  · rw [upF_i (by omega)]
    exact a5 i (by omega)
def TYPR (mu m : Mu) (w : Int64) (n : Int32) (z : Nat) (r : Int32) : Prop := (¬ inB n 1 8 = true ∧ r = -1 ∧ m = mu) ∨ ∃ N, n = nI N ∧ 1 ≤ N ∧ N ≤ 8 ∧ ((tyB w N = false ∧ r = -1 ∧ m = mu) ∨ (tyB w N = true ∧ ((60 < z + N ∧ r = -3 ∧ m = mu) ∨ (z + N ≤ 60 ∧ r = nI (z + N) ∧ APR mu m w z N N))))
set_option maxHeartbeats 4000000 in
set_option maxRecDepth 100000 in
theorem c_X9_type (mu : Mu) (w : Int64) (n : Int32) (z : Nat) (ez : mu 94 8 = nI z) (hz : z ≤ 60) : Con yX9_type cX9_type 5 (some .int) 1 [vC 94, vJ w, vI n] mu (fun r mu2 => TYPR mu mu2 w n z r) := by
  refine con_of (own := RX9) (by decide) rfl (Nat.le_of_ble_eq_true rfl) (fun X g hq => ?_)
  show WA X g RX9 5 cX9_type 0 [(0, vC 94), (1, vJ w), (3, vI n)] [] mu
  refine o_iload_n dX9_type_0 rfl rfl (by rfl) ?_
  refine o_i2l dX9_type_1 rfl ?_
  refine o_lconst (v := 1) dX9_type_2 rfl (by decide) ?_
  refine o_ldc2 dX9_type_3 rfl kc_X9_107 ?_
  refine o_callS cs_X9_in ct_X9_71 (c_in _ n 1 8) hq.2.2.2 (Nat.le_of_ble_eq_true rfl) dX9_type_6 rfl rfl rfl (Nat.le_of_ble_eq_true rfl) (fun r1 mu1 h1 => ?_)
  obtain ⟨em, h1⟩ := h1
  rw [em]
  refine o_if_ne (tgt := 14) dX9_type_9 (by decide) rfl (fun (c9 : ¬ r1 = 0) => ?_) (fun (c9 : r1 = 0) => ?_)
  · skip
    have b9 := (if10 h1).2 c9
    obtain ⟨N, eN, hN1, hN2⟩ := inB_nI (l := 1) (m := 8) (by decide) (by decide) b9
    refine o_iconst (v := 0) dX9_type_14 rfl (by decide) ?_
    refine o_istore (L' := [(0, vC 94), (1, vJ w), (3, vI n), (4, vI 0)]) dX9_type_15 rfl (by decide) (by rfl) (by rfl) ?_
    have LP17 : ∀ (nLP17 : Nat) (k : Nat) , (k ≤ N) → (tyB w k = true) → (N < k + nLP17) → WA X g RX9 5 cX9_type 17 [(0, vC 94), (1, vJ w), (3, vI n), (4, vI (nI k))] [] mu := by
      intro nLP17
      induction nLP17 with
      | zero =>
        intro k hk hB hm
        exact absurd hm (by omega)
      | succ nLP17 ihLP17 =>
        intro k hk hB hm
        refine o_iload dX9_type_17 rfl (by rfl) ?_
        refine o_iload_n dX9_type_19 rfl rfl (by rfl) ?_
        refine o_icmp_ge (tgt := 54) dX9_type_20 (by decide) rfl (fun (c20 : n ≤ (nI k)) => ?_) (fun (c20 : ¬ n ≤ (nI k)) => ?_)
        · skip
          rw [eN] at c20
          have hk2 := nI_dec2 c20 (by omega) (by omega)
          have hkN : k = N := by omega
          rw [hkN] at hB
          refine o_aload_n dX9_type_54 rfl rfl (by rfl) ?_
          refine o_getI cl_X9_115 dX9_type_55 rfl (by decide) (by rfl) (by rfl) ?_
          refine o_iload_n dX9_type_58 rfl rfl (by rfl) ?_
          refine o_iadd dX9_type_59 rfl ?_
          refine o_bipush (v := 60) dX9_type_60 rfl (by decide) ?_
          refine o_icmp_le (tgt := 68) dX9_type_62 (by decide) rfl (fun (c62 : ((mu 94 8) + n) ≤ 60) => ?_) (fun (c62 : ¬ ((mu 94 8) + n) ≤ 60) => ?_)
          · skip
            have hb3 : ¬ 60 < z + N := fun h9 => absurd c62 (Int32.not_le.mpr (by rw [ez, eN, nI_add]; exact nI_lt (a := 60) h9 (by omega)))
            refine o_iload_n dX9_type_68 rfl rfl (by rfl) ?_
            refine o_iconst (v := 1) dX9_type_69 rfl (by decide) ?_
            refine o_isub dX9_type_70 rfl ?_
            refine o_istore (L' := [(0, vC 94), (1, vJ w), (3, vI n), (4, vI (n - 1))]) dX9_type_71 rfl (by decide) (by rfl) (by rfl) ?_
            have LP73 : ∀ (nLP73 : Nat) (t : Nat) (m : Mu) , (t ≤ N) → (APR mu m w z N t) → (N < t + nLP73) → WA X g RX9 5 cX9_type 73 [(0, vC 94), (1, vJ w), (3, vI n), (4, vI (nI (N - t) - 1))] [] m := by
              intro nLP73
              induction nLP73 with
              | zero =>
                intro t m ht hA hm
                exact absurd hm (by omega)
              | succ nLP73 ihLP73 =>
                intro t m ht hA hm
                refine o_iload dX9_type_73 rfl (by rfl) ?_
                refine o_if_lt (tgt := 115) dX9_type_75 (by decide) rfl (fun (c75 : (nI (N - t) - 1) < 0) => ?_) (fun (c75 : ¬ (nI (N - t) - 1) < 0) => ?_)
                · skip
                  have ht2 : t = N := by by_cases h9 : t < N; exact absurd c75 (by rw [show nI (N - t) - 1 = nI (N - t - 1) from pk_sub (b := 1) (by omega)]; exact nI_nlt (b := 0) (by omega) (by omega)); omega
                  rw [ht2] at hA
                  refine o_aload_n dX9_type_115 rfl rfl (by rfl) ?_
                  refine o_getI cl_X9_115 dX9_type_116 rfl (by decide) (by rfl) (by rfl) ?_
                  exact o_iret hq dX9_type_119 (Or.inr ⟨N, eN, hN1, hN2, Or.inr ⟨hB, Or.inr ⟨by omega, hA.1, hA⟩⟩⟩)
                · skip
                  have ht2 : t < N := by by_cases h9 : t < N; exact h9; rw [show t = N by omega, show N - N = 0 by omega] at c75; exact absurd (by decide) c75
                  rw [show nI (N - t) - 1 = nI (N - 1 - t) from (pk_sub (b := 1) (by omega)).trans (by rw [show N - t - 1 = N - 1 - t by omega])]
                  refine o_aload_n dX9_type_78 rfl rfl (by rfl) ?_
                  refine o_getC (q := 99) cl_X9_22 dX9_type_79 rfl (by decide) (by rfl) (by rfl) ?_
                  refine o_aload_n dX9_type_82 rfl rfl (by rfl) ?_
                  refine o_getI cl_X9_115 dX9_type_83 rfl (by decide) (by rfl) (by rfl) ?_
                  refine o_lload_n dX9_type_86 rfl rfl (by rfl) ?_
                  refine o_bipush (v := 8) dX9_type_87 rfl (by decide) ?_
                  refine o_iload dX9_type_89 rfl (by rfl) ?_
                  refine o_imul dX9_type_91 rfl ?_
                  refine o_lshr dX9_type_92 rfl ?_
                  refine o_ldc2 dX9_type_93 rfl kc_X9_109 ?_
                  refine o_land dX9_type_96 rfl ?_
                  refine o_l2i dX9_type_97 rfl ?_
                  rw [show ((w >>> ((8 * nI (N - 1 - t)).toInt64 &&& 63)) &&& 255).toInt32 = byV w (N - 1 - t) from by_i w (N - 1 - t) (by omega)]
                  refine o_iast dX9_type_98 rfl (by decide) (by rfl) (by rfl) (by rw [hA.1]; exact vp_in_nI (by omega) (by decide)) ?_
                  refine o_aload_n dX9_type_99 rfl rfl (by rfl) ?_
                  refine o_dup dX9_type_100 rfl rfl ?_
                  refine o_getI cl_X9_115 dX9_type_101 rfl (by decide) (by rfl) (by rfl) ?_
                  refine o_iconst (v := 1) dX9_type_104 rfl (by decide) ?_
                  refine o_iadd dX9_type_105 rfl ?_
                  refine o_put cl_X9_115 cp_X9_8 dX9_type_106 rfl (by decide) (by rfl) (by rfl) fitI ?_
                  refine o_iinc (v := nI (N - (t + 1)) - 1) (L' := [(0, vC 94), (1, vJ w), (3, vI n), (4, vI (nI (N - (t + 1)) - 1))]) dX9_type_109 rfl (by rfl) (by exact (by rw [show N - (t + 1) = N - 1 - t by omega]; exact dec1 _)) (by decide) (by rfl) (by rfl) ?_
                  refine o_goto (tgt := 73) dX9_type_112 (by decide) ?_
                  exact ihLP73 (t + 1) _ (by omega) (hA.go (by rw [hA.1, nI_clamp (by omega)]) rfl (by rw [upF_k (by decide), hA.1, nI_1]) rfl) (by omega)
            have e40 : n - 1 = nI (N - 0) - 1 := by rw [eN]; rfl
            rw [e40]
            exact LP73 (N + 1) 0 _ (by omega) ⟨ez, fun _ _ => rfl, fun _ _ _ => rfl, fun _ _ => rfl, fun i hi => by omega⟩ (by omega)
          · skip
            have hb3 : 60 < z + N := Decidable.not_not.mp (fun h9 => c62 (Int32.not_lt.mp (by rw [ez, eN, nI_add]; exact nI_nlt (a := 60) (by omega) (by omega))))
            refine o_bipush (v := (-3)) dX9_type_65 rfl (by decide) ?_
            exact o_iret hq dX9_type_67 (Or.inr ⟨N, eN, hN1, hN2, Or.inr ⟨hB, Or.inl ⟨hb3, rfl, rfl⟩⟩⟩)
        · skip
          rw [eN] at c20
          have hk2 := nI_dec c20 (by omega) (by omega)
          refine o_lload_n dX9_type_23 rfl rfl (by rfl) ?_
          refine o_bipush (v := 8) dX9_type_24 rfl (by decide) ?_
          refine o_iload dX9_type_26 rfl (by rfl) ?_
          refine o_imul dX9_type_28 rfl ?_
          refine o_lshr dX9_type_29 rfl ?_
          refine o_ldc2 dX9_type_30 rfl kc_X9_109 ?_
          refine o_land dX9_type_33 rfl ?_
          rw [show (w >>> ((8 * nI k).toInt64 &&& 63)) &&& 255 = (byV w k).toInt64 from by_eq w k (by omega)]
          refine o_ldc2 dX9_type_34 rfl kc_X9_111 ?_
          refine o_ldc2 dX9_type_37 rfl kc_X9_113 ?_
          refine o_callS cs_X9_in ct_X9_71 (c_in _ (byV w k) 32 126) hq.2.2.2 (Nat.le_of_ble_eq_true rfl) dX9_type_40 rfl rfl rfl (Nat.le_of_ble_eq_true rfl) (fun r2 mu2 h2 => ?_)
          obtain ⟨em, h2⟩ := h2
          rw [em]
          refine o_if_ne (tgt := 48) dX9_type_43 (by decide) rfl (fun (c43 : ¬ r2 = 0) => ?_) (fun (c43 : r2 = 0) => ?_)
          · skip
            have b43 := (if10 h2).2 c43
            refine o_iinc (v := nI (k + 1)) (L' := [(0, vC 94), (1, vJ w), (3, vI n), (4, vI (nI (k + 1)))]) dX9_type_48 rfl (by rfl) (by exact nI_1 k) (by decide) (by rfl) (by rfl) ?_
            refine o_goto (tgt := 17) dX9_type_51 (by decide) ?_
            exact ihLP17 (k + 1) (by omega) (tyB_s hB b43) (by omega)
          · skip
            have b43 := (if10 h2).1 c43
            refine o_iconst (v := (-1)) dX9_type_46 rfl (by decide) ?_
            exact o_iret hq dX9_type_47 (Or.inr ⟨N, eN, hN1, hN2, Or.inl ⟨tyB_no b43 hk2, rfl, rfl⟩⟩)
    exact LP17 (N + 1) 0 (by omega) rfl (by omega)
  · skip
    have b9 := (if10 h1).1 c9
    refine o_iconst (v := (-1)) dX9_type_12 rfl (by decide) ?_
    exact o_iret hq dX9_type_13 (Or.inl ⟨b9, rfl, rfl⟩)
