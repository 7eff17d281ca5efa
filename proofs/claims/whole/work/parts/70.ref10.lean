/-! ===== the reference: cells, rings, the middle ===== -/
def szS (B : Nat → Bool) (l : Nat → Nat) : Nat → Nat
  | 0 => 0
  | k + 1 => szS B l k + sz B l k
def ccS (B : Nat → Bool) (l : Nat → Nat) (n : Nat) : Nat → Nat
  | 0 => 0
  | k + 1 => ccS B l n k + cN (fun j => B j && l j == k) n
theorem ccS_90 (B : Nat → Bool) (l : Nat → Nat) : ∀ k, ccS B l 90 k = szS B l k
  | 0 => rfl
  | k + 1 => by show ccS B l 90 k + _ = szS B l k + _; rw [ccS_90 B l k]; rfl
theorem ccS_s (B : Nat → Bool) (l : Nat → Nat) (n : Nat) : ∀ k, ccS B l (n + 1) k = ccS B l n k + (if (B n && decide (l n < k)) = true then 1 else 0)
  | 0 => by
    show 0 = 0 + _
    rw [if_neg (by rw [show decide (l n < 0) = false from decide_eq_false (by omega), Bool.and_false]; decide)]
  | k + 1 => by
    show ccS B l (n + 1) k + (cN (fun j => B j && l j == k) n + (if (B n && l n == k) = true then 1 else 0)) = ccS B l n k + cN (fun j => B j && l j == k) n + _
    rw [ccS_s B l n k]
    cases hB : B n
    · simp only [Bool.false_and, Bool.false_eq_true, if_false]; omega
    · simp only [Bool.true_and]
      by_cases e : l n = k
      · rw [if_neg (by rw [decide_eq_true_eq]; omega), if_pos (by rw [beq_iff_eq]; exact e), if_pos (by rw [decide_eq_true_eq]; omega)]
        omega
      · by_cases e2 : l n < k
        · rw [if_pos (by rw [decide_eq_true_eq]; exact e2), if_neg (by rw [beq_iff_eq]; exact e), if_pos (by rw [decide_eq_true_eq]; omega)]
          omega
        · rw [if_neg (by rw [decide_eq_true_eq]; exact e2), if_neg (by rw [beq_iff_eq]; exact e), if_neg (by rw [decide_eq_true_eq]; omega)]
          omega
theorem ccS_all {B : Nat → Bool} {l : Nat → Nat} (hl : ∀ j, B j = true → l j < 90) : ∀ n, ccS B l n 90 = cN B n
  | 0 => by
    have key : ∀ k, ccS B l 0 k = 0 := by
      intro k
      induction k with
      | zero => rfl
      | succ k ih => show ccS B l 0 k + 0 = 0; rw [ih]
    exact key 90
  | n + 1 => by
    rw [ccS_s, ccS_all hl n]
    show _ = cN B n + (if B n = true then 1 else 0)
    cases hB : B n
    · rfl
    · rw [decide_eq_true (hl n hB)]; rfl
theorem cnt_nI {f : Vc} {cup : Int32} : ∀ {n : Nat}, n ≤ 90 → cntE f cup n = nI (cN (FB f cup) n)
  | 0, _ => rfl
  | n + 1, h => by
    show cntE f cup n + (if f n = cup then 1 else 0) = nI (cN (FB f cup) n + (if FB f cup n = true then 1 else 0))
    rw [cnt_nI (n := n) (by omega)]
    by_cases e : f n = cup
    · rw [if_pos e, if_pos (FB_i (by omega) e), nI_1]
    · rw [if_neg e, if_neg (fun q => e (FB_t q).2), Int32.add_zero]
      rfl
theorem szS_le (B : Nat → Bool) (l : Nat → Nat) : ∀ k, szS B l k ≤ 90 * k
  | 0 => Nat.le_refl _
  | k + 1 => by
    have := szS_le B l k
    have := sz_le B l k
    show szS B l k + sz B l k ≤ 90 * (k + 1)
    omega
theorem eR_FB {mu m : Mu} {c : Nat} (hc : c < 4) (h : ∀ k, k < 90 → m 104 k = eR mu (aC mu (mu 2 0)) k) : FB (m 104) (nI c) = FB (eG mu (mu 2 0)) (nI c) := by
  funext j
  unfold FB
  congr 1
  apply propext
  constructor
  · rintro ⟨a, b⟩
    rw [h j a] at b
    exact ⟨a, (cn_eq (nI_nem4 (by omega)) (nI_nem1 (by omega))).mp b⟩
  · rintro ⟨a, b⟩
    rw [h j a]
    exact ⟨a, (cn_eq (nI_nem4 (by omega)) (nI_nem1 (by omega))).mpr b⟩
theorem lab_at {g : Vc} {B : Nat → Bool} {l : Nat → Nat} {j k : Nat} (hk : k < 90) (hl : B j = true → l j < 90) (h : g j = if B j = true then nI (l j) else -4) : (g j = nI k ↔ (B j && l j == k) = true) := by
  rw [h, Bool.and_eq_true, beq_iff_eq]
  cases hB : B j
  · rw [if_neg (by decide)]
    exact ⟨fun e => absurd e.symm (nI_nem4 (by omega)), fun e => absurd e.1 (by decide)⟩
  · rw [if_pos rfl]
    have := hl hB
    exact ⟨fun e => ⟨rfl, (nI_eq (by omega) (by omega)).mp e⟩, fun e => by rw [e.2]⟩
set_option maxHeartbeats 4000000 in
set_option maxRecDepth 100000 in
theorem c_X9_cells (mu : Mu) (nc np : Nat) (hA : RB mu nc np) (cup what : Int32) : Con yX9_cells cX9_cells 9 (some .int) 5 [vC 94, vI cup, vI what] mu (fun r mu2 => ((hsB (nI nc) cup && inB what 0 2) = false ∧ r = -1 ∧ mu2 = mu) ∨ ((hsB (nI nc) cup && inB what 0 2) = true ∧ mu 9 2 = 0 ∧ r = -2 ∧ mu2 = mu) ∨ ((hsB (nI nc) cup && inB what 0 2) = true ∧ ¬ mu 9 2 = 0 ∧ frR mu mu2 ∧ ∃ l, Lab (fun j => FB (eG mu (mu 2 0)) cup j = true) l ∧ r = if what = 0 then cntE (eG mu (mu 2 0)) cup 90 else if what = 1 then nI (ccN (FB (eG mu (mu 2 0)) cup) l 90) else nI (mmN (FB (eG mu (mu 2 0)) cup) l 90))) := by
  refine con_of (own := RX9) (by decide) rfl (Nat.le_of_ble_eq_true rfl) (fun X g hq => ?_)
  show WA X g RX9 9 cX9_cells 0 [(0, vC 94), (1, vI cup), (2, vI what)] [] mu
  refine o_aload_n dX9_cells_0 rfl rfl (by rfl) ?_
  refine o_iload_n dX9_cells_1 rfl rfl (by rfl) ?_
  refine o_callV cs_X9_isCup cv_X9_95 (c_X9_isCup _ nc (by have := hA.nc.2.1; omega) hA.nc.1 cup) hq.2.2.2 (Nat.le_of_ble_eq_true rfl) dX9_cells_2 rfl (by decide) (by rfl) (by rfl) (by rfl) rfl rfl (Nat.le_of_ble_eq_true rfl) (fun r1 mu1 h1 => ?_)
  obtain ⟨em, h1⟩ := h1
  rw [em]
  refine o_if_eq (tgt := 20) dX9_cells_5 (by decide) rfl (fun (c5 : r1 = 0) => ?_) (fun (c5 : ¬ r1 = 0) => ?_)
  · skip
    have b5 := (if10 h1).1 c5
    refine o_iconst (v := (-1)) dX9_cells_20 rfl (by decide) ?_
    exact o_iret hq dX9_cells_21 (Or.inl ⟨by simp [b5], rfl, rfl⟩)
  · skip
    have b5 := (if10 h1).2 c5
    refine o_iload_n dX9_cells_8 rfl rfl (by rfl) ?_
    refine o_i2l dX9_cells_9 rfl ?_
    refine o_lconst (v := 0) dX9_cells_10 rfl (by decide) ?_
    refine o_ldc2 dX9_cells_11 rfl kc_X9_75 ?_
    refine o_callS cs_X9_in ct_X9_71 (c_in _ what 0 2) hq.2.2.2 (Nat.le_of_ble_eq_true rfl) dX9_cells_14 rfl rfl rfl (Nat.le_of_ble_eq_true rfl) (fun r2 mu2 h2 => ?_)
    obtain ⟨em, h2⟩ := h2
    rw [em]
    refine o_if_ne (tgt := 22) dX9_cells_17 (by decide) rfl (fun (c17 : ¬ r2 = 0) => ?_) (fun (c17 : r2 = 0) => ?_)
    · skip
      have b17 := (if10 h2).2 c17
      refine o_aload_n dX9_cells_22 rfl rfl (by rfl) ?_
      refine o_getI cl_X9_100 dX9_cells_23 rfl (by decide) (by rfl) (by rfl) ?_
      refine o_if_ne (tgt := 32) dX9_cells_26 (by decide) rfl (fun (c26 : ¬ (mu 94 3) = 0) => ?_) (fun (c26 : (mu 94 3) = 0) => ?_)
      · skip
        have hnc := hA.nc.2.1
        obtain ⟨c, ec, hc⟩ := hsB_nI (by omega) b5
        refine o_aload_n dX9_cells_32 rfl rfl (by rfl) ?_
        refine o_callVV cs_X9_grid cv_X9_232 (c_X9_grid _ _ nc np hA) hq.2.2.2 (Nat.le_of_ble_eq_true rfl) dX9_cells_33 rfl (by decide) (by rfl) (by rfl) (by rfl) rfl rfl (Nat.le_of_ble_eq_true rfl) (fun m1 hG => ?_)
        refine o_aload_n dX9_cells_36 rfl rfl (by rfl) ?_
        refine o_iload_n dX9_cells_37 rfl rfl (by rfl) ?_
        refine o_callVV cs_X9_groups cv_X9_235 (c_X9_groups _ cup) hq.2.2.2 (Nat.le_of_ble_eq_true rfl) dX9_cells_38 rfl (by decide) (by rfl) (by rfl) (by rfl) rfl rfl (Nat.le_of_ble_eq_true rfl) (fun m2 hP => ?_)
        obtain ⟨hP1, l, hL1, hL2⟩ := hP
        have eB : FB (m1 104) cup = FB (eG mu (mu 2 0)) cup := by rw [ec]; exact eR_FB (by omega) hG.2.2
        rw [eB] at hL2
        have hL3 : Lab (fun j => FB (eG mu (mu 2 0)) cup j = true) l := by rw [← eB]; exact hL1
        have hlt : ∀ j, FB (eG mu (mu 2 0)) cup j = true → l j < 90 := fun j hj => by have := (hL3.1 j hj).2.2; have := (FB_t hj).1; omega
        have hF2 : frR mu m2 := ⟨fun q hq9 => (hP1 q (by omega)).trans (hG.1.1 q hq9), fun j hj => by rw [hP1 94 (by decide)]; exact hG.1.2 j hj⟩
        refine o_iconst (v := 0) dX9_cells_41 rfl (by decide) ?_
        refine o_istore_n (L' := [(0, vC 94), (1, vI cup), (2, vI what), (3, vI 0)]) dX9_cells_42 rfl rfl (by decide) (by rfl) (by rfl) ?_
        refine o_iconst (v := 0) dX9_cells_43 rfl (by decide) ?_
        refine o_istore (L' := [(0, vC 94), (1, vI cup), (2, vI what), (3, vI 0), (4, vI 0)]) dX9_cells_44 rfl (by decide) (by rfl) (by rfl) ?_
        refine o_iconst (v := 0) dX9_cells_46 rfl (by decide) ?_
        refine o_istore (L' := [(0, vC 94), (1, vI cup), (2, vI what), (3, vI 0), (4, vI 0), (5, vI 0)]) dX9_cells_47 rfl (by decide) (by rfl) (by rfl) ?_
        refine o_iconst (v := 0) dX9_cells_49 rfl (by decide) ?_
        refine o_istore (L' := [(0, vC 94), (1, vI cup), (2, vI what), (3, vI 0), (4, vI 0), (5, vI 0), (6, vI 0)]) dX9_cells_50 rfl (by decide) (by rfl) (by rfl) ?_
        have LP52 : ∀ (nLP52 : Nat) (k : Nat) , (k ≤ 90) → (90 < k + nLP52) → WA X g RX9 9 cX9_cells 52 [(0, vC 94), (1, vI cup), (2, vI what), (3, vI (nI (szS (FB (eG mu (mu 2 0)) cup) l k))), (4, vI (nI (ccN (FB (eG mu (mu 2 0)) cup) l k))), (5, vI (nI (mmN (FB (eG mu (mu 2 0)) cup) l k))), (6, vI (nI k))] [] m2 := by
          intro nLP52
          induction nLP52 with
          | zero =>
            intro k hk hm
            exact absurd hm (by omega)
          | succ nLP52 ihLP52 =>
            intro k hk hm
            have hmm := mmN_le (FB (eG mu (mu 2 0)) cup) l k
            have hss := sz_le (FB (eG mu (mu 2 0)) cup) l k
            have hs9 : cN (fun j => (FB (eG mu (mu 2 0)) cup) j && l j == k) 90 ≤ 90 := cN_le _ _
            refine o_iload dX9_cells_52 rfl (by rfl) ?_
            refine o_bipush (v := 90) dX9_cells_54 rfl (by decide) ?_
            refine o_icmp_ge (tgt := 142) dX9_cells_56 (by decide) rfl (fun (c56 : 90 ≤ (nI k)) => ?_) (fun (c56 : ¬ 90 ≤ (nI k)) => ?_)
            · skip
              have hk2 := nI_dec2 (b := 90) c56 (by omega) (by decide)
              have e2 : k = 90 := by omega
              refine o_iload_n dX9_cells_142 rfl rfl (by rfl) ?_
              refine o_if_ne (tgt := 150) dX9_cells_143 (by decide) rfl (fun (c143 : ¬ what = 0) => ?_) (fun (c143 : what = 0) => ?_)
              · skip
                refine o_iload_n dX9_cells_150 rfl rfl (by rfl) ?_
                refine o_iconst (v := 1) dX9_cells_151 rfl (by decide) ?_
                refine o_icmp_ne (tgt := 160) dX9_cells_152 (by decide) rfl (fun (c152 : ¬ what = 1) => ?_) (fun (c152 : what = 1) => ?_)
                · skip
                  refine o_iload dX9_cells_160 rfl (by rfl) ?_
                  exact o_iret hq dX9_cells_162 (Or.inr (Or.inr ⟨by simp [b5, b17], fun h9 => c26 (hA.z.mpr h9), hF2, l, hL3, by rw [if_neg c143, if_neg c152, e2]⟩))
                · skip
                  refine o_iload dX9_cells_155 rfl (by rfl) ?_
                  refine o_goto (tgt := 162) dX9_cells_157 (by decide) ?_
                  exact o_iret hq dX9_cells_162 (Or.inr (Or.inr ⟨by simp [b5, b17], fun h9 => c26 (hA.z.mpr h9), hF2, l, hL3, by rw [if_neg c143, if_pos c152, e2]⟩))
              · skip
                refine o_iload_n dX9_cells_146 rfl rfl (by rfl) ?_
                refine o_goto (tgt := 162) dX9_cells_147 (by decide) ?_
                exact o_iret hq dX9_cells_162 (Or.inr (Or.inr ⟨by simp [b5, b17], fun h9 => c26 (hA.z.mpr h9), hF2, l, hL3, by rw [if_pos c143, e2]; rw [cnt_nI (by omega), ← ccS_all hlt, ccS_90]⟩))
            · skip
              have hk2 := nI_dec (b := 90) c56 (by omega) (by decide)
              refine o_iconst (v := 0) dX9_cells_59 rfl (by decide) ?_
              refine o_istore (L' := [(0, vC 94), (1, vI cup), (2, vI what), (3, vI (nI (szS (FB (eG mu (mu 2 0)) cup) l k))), (4, vI (nI (ccN (FB (eG mu (mu 2 0)) cup) l k))), (5, vI (nI (mmN (FB (eG mu (mu 2 0)) cup) l k))), (6, vI (nI k)), (7, vI 0)]) dX9_cells_60 rfl (by decide) (by rfl) (by rfl) ?_
              refine o_iconst (v := 0) dX9_cells_62 rfl (by decide) ?_
              refine o_istore (L' := [(0, vC 94), (1, vI cup), (2, vI what), (3, vI (nI (szS (FB (eG mu (mu 2 0)) cup) l k))), (4, vI (nI (ccN (FB (eG mu (mu 2 0)) cup) l k))), (5, vI (nI (mmN (FB (eG mu (mu 2 0)) cup) l k))), (6, vI (nI k)), (7, vI 0), (8, vI 0)]) dX9_cells_63 rfl (by decide) (by rfl) (by rfl) ?_
              have LP65 : ∀ (nLP65 : Nat) (j : Nat) , (j ≤ 90) → (90 < j + nLP65) → WA X g RX9 9 cX9_cells 65 [(0, vC 94), (1, vI cup), (2, vI what), (3, vI (nI (szS (FB (eG mu (mu 2 0)) cup) l k))), (4, vI (nI (ccN (FB (eG mu (mu 2 0)) cup) l k))), (5, vI (nI (mmN (FB (eG mu (mu 2 0)) cup) l k))), (6, vI (nI k)), (7, vI (nI (cN (fun j => (FB (eG mu (mu 2 0)) cup) j && l j == k) j))), (8, vI (nI j))] [] m2 := by
                intro nLP65
                induction nLP65 with
                | zero =>
                  intro j hj hm2
                  exact absurd hm2 (by omega)
                | succ nLP65 ihLP65 =>
                  intro j hj hm2
                  refine o_iload dX9_cells_65 rfl (by rfl) ?_
                  refine o_bipush (v := 90) dX9_cells_67 rfl (by decide) ?_
                  refine o_icmp_ge (tgt := 100) dX9_cells_69 (by decide) rfl (fun (c69 : 90 ≤ (nI j)) => ?_) (fun (c69 : ¬ 90 ≤ (nI j)) => ?_)
                  · skip
                    have hj2 := nI_dec2 (b := 90) c69 (by omega) (by decide)
                    have ej : j = 90 := by omega
                    rw [ej]
                    refine o_iload_n dX9_cells_100 rfl rfl (by rfl) ?_
                    refine o_iload dX9_cells_101 rfl (by rfl) ?_
                    refine o_iadd dX9_cells_103 rfl ?_
                    refine o_istore_n (L' := [(0, vC 94), (1, vI cup), (2, vI what), (3, vI ((nI (szS (FB (eG mu (mu 2 0)) cup) l k)) + (nI (cN (fun j => (FB (eG mu (mu 2 0)) cup) j && l j == k) 90)))), (4, vI (nI (ccN (FB (eG mu (mu 2 0)) cup) l k))), (5, vI (nI (mmN (FB (eG mu (mu 2 0)) cup) l k))), (6, vI (nI k)), (7, vI (nI (cN (fun j => (FB (eG mu (mu 2 0)) cup) j && l j == k) 90))), (8, vI (nI 90))]) dX9_cells_104 rfl rfl (by decide) (by rfl) (by rfl) ?_
                    refine o_iload dX9_cells_105 rfl (by rfl) ?_
                    refine o_iload dX9_cells_107 rfl (by rfl) ?_
                    refine o_if_le (tgt := 116) dX9_cells_109 (by decide) rfl (fun (c109 : (nI (cN (fun j => (FB (eG mu (mu 2 0)) cup) j && l j == k) 90)) ≤ 0) => ?_) (fun (c109 : ¬ (nI (cN (fun j => (FB (eG mu (mu 2 0)) cup) j && l j == k) 90)) ≤ 0) => ?_)
                    · skip
                      refine o_iconst (v := 0) dX9_cells_116 rfl (by decide) ?_
                      refine o_iadd dX9_cells_117 rfl ?_
                      refine o_istore (L' := [(0, vC 94), (1, vI cup), (2, vI what), (3, vI ((nI (szS (FB (eG mu (mu 2 0)) cup) l k)) + (nI (cN (fun j => (FB (eG mu (mu 2 0)) cup) j && l j == k) 90)))), (4, vI ((nI (ccN (FB (eG mu (mu 2 0)) cup) l k)) + 0)), (5, vI (nI (mmN (FB (eG mu (mu 2 0)) cup) l k))), (6, vI (nI k)), (7, vI (nI (cN (fun j => (FB (eG mu (mu 2 0)) cup) j && l j == k) 90))), (8, vI (nI 90))]) dX9_cells_118 rfl (by decide) (by rfl) (by rfl) ?_
                      refine o_iload dX9_cells_120 rfl (by rfl) ?_
                      refine o_iload dX9_cells_122 rfl (by rfl) ?_
                      refine o_icmp_le (tgt := 132) dX9_cells_124 (by decide) rfl (fun (c124 : (nI (cN (fun j => (FB (eG mu (mu 2 0)) cup) j && l j == k) 90)) ≤ (nI (mmN (FB (eG mu (mu 2 0)) cup) l k))) => ?_) (fun (c124 : ¬ (nI (cN (fun j => (FB (eG mu (mu 2 0)) cup) j && l j == k) 90)) ≤ (nI (mmN (FB (eG mu (mu 2 0)) cup) l k))) => ?_)
                      · skip
                        refine o_iload dX9_cells_132 rfl (by rfl) ?_
                        refine o_istore (L' := [(0, vC 94), (1, vI cup), (2, vI what), (3, vI ((nI (szS (FB (eG mu (mu 2 0)) cup) l k)) + (nI (cN (fun j => (FB (eG mu (mu 2 0)) cup) j && l j == k) 90)))), (4, vI ((nI (ccN (FB (eG mu (mu 2 0)) cup) l k)) + 0)), (5, vI (nI (mmN (FB (eG mu (mu 2 0)) cup) l k))), (6, vI (nI k)), (7, vI (nI (cN (fun j => (FB (eG mu (mu 2 0)) cup) j && l j == k) 90))), (8, vI (nI 90))]) dX9_cells_134 rfl (by decide) (by rfl) (by rfl) ?_
                        refine o_iinc (v := nI (k + 1)) (L' := [(0, vC 94), (1, vI cup), (2, vI what), (3, vI ((nI (szS (FB (eG mu (mu 2 0)) cup) l k)) + (nI (cN (fun j => (FB (eG mu (mu 2 0)) cup) j && l j == k) 90)))), (4, vI ((nI (ccN (FB (eG mu (mu 2 0)) cup) l k)) + 0)), (5, vI (nI (mmN (FB (eG mu (mu 2 0)) cup) l k))), (6, vI (nI (k + 1))), (7, vI (nI (cN (fun j => (FB (eG mu (mu 2 0)) cup) j && l j == k) 90))), (8, vI (nI 90))]) dX9_cells_136 rfl (by rfl) (by exact nI_1 k) (by decide) (by rfl) (by rfl) ?_
                        refine o_goto (tgt := 52) dX9_cells_139 (by decide) ?_
                        refine o_pick (L' := [(0, vC 94), (1, vI cup), (2, vI what), (3, vI ((nI (szS (FB (eG mu (mu 2 0)) cup) l k)) + (nI (cN (fun j => (FB (eG mu (mu 2 0)) cup) j && l j == k) 90)))), (4, vI ((nI (ccN (FB (eG mu (mu 2 0)) cup) l k)) + 0)), (5, vI (nI (mmN (FB (eG mu (mu 2 0)) cup) l k))), (6, vI (nI (k + 1)))]) [0, 1, 2, 3, 4, 5, 6] (by rfl) ?_
                        rw [show ((nI (szS (FB (eG mu (mu 2 0)) cup) l k)) + (nI (cN (fun j => (FB (eG mu (mu 2 0)) cup) j && l j == k) 90))) = nI (szS (FB (eG mu (mu 2 0)) cup) l (k + 1)) from (nI_add _ _)]
                        rw [show ((nI (ccN (FB (eG mu (mu 2 0)) cup) l k)) + 0) = nI (ccN (FB (eG mu (mu 2 0)) cup) l (k + 1)) by show _ = nI (ccN (FB (eG mu (mu 2 0)) cup) l k + (if 0 < sz (FB (eG mu (mu 2 0)) cup) l k then 1 else 0)); rw [if_neg (fun h9 => absurd (nI_dec2 (a := 0) c109 (by decide) (by omega)) (by unfold sz at h9; omega))]; exact Int32.add_zero _]
                        have e5 : (nI (mmN (FB (eG mu (mu 2 0)) cup) l k)) = nI (mmN (FB (eG mu (mu 2 0)) cup) l (k + 1)) := by show _ = nI (if mmN (FB (eG mu (mu 2 0)) cup) l k < sz (FB (eG mu (mu 2 0)) cup) l k then sz (FB (eG mu (mu 2 0)) cup) l k else mmN (FB (eG mu (mu 2 0)) cup) l k); rw [if_neg (fun h9 => absurd (nI_dec2 c124 (by omega) (by omega)) (by unfold sz at h9; omega))]
                        rw [e5]
                        exact ihLP52 (k + 1) (by omega) (by omega)
                      · skip
                        refine o_iload dX9_cells_127 rfl (by rfl) ?_
                        refine o_goto (tgt := 134) dX9_cells_129 (by decide) ?_
                        refine o_istore (L' := [(0, vC 94), (1, vI cup), (2, vI what), (3, vI ((nI (szS (FB (eG mu (mu 2 0)) cup) l k)) + (nI (cN (fun j => (FB (eG mu (mu 2 0)) cup) j && l j == k) 90)))), (4, vI ((nI (ccN (FB (eG mu (mu 2 0)) cup) l k)) + 0)), (5, vI (nI (cN (fun j => (FB (eG mu (mu 2 0)) cup) j && l j == k) 90))), (6, vI (nI k)), (7, vI (nI (cN (fun j => (FB (eG mu (mu 2 0)) cup) j && l j == k) 90))), (8, vI (nI 90))]) dX9_cells_134 rfl (by decide) (by rfl) (by rfl) ?_
                        refine o_iinc (v := nI (k + 1)) (L' := [(0, vC 94), (1, vI cup), (2, vI what), (3, vI ((nI (szS (FB (eG mu (mu 2 0)) cup) l k)) + (nI (cN (fun j => (FB (eG mu (mu 2 0)) cup) j && l j == k) 90)))), (4, vI ((nI (ccN (FB (eG mu (mu 2 0)) cup) l k)) + 0)), (5, vI (nI (cN (fun j => (FB (eG mu (mu 2 0)) cup) j && l j == k) 90))), (6, vI (nI (k + 1))), (7, vI (nI (cN (fun j => (FB (eG mu (mu 2 0)) cup) j && l j == k) 90))), (8, vI (nI 90))]) dX9_cells_136 rfl (by rfl) (by exact nI_1 k) (by decide) (by rfl) (by rfl) ?_
                        refine o_goto (tgt := 52) dX9_cells_139 (by decide) ?_
                        refine o_pick (L' := [(0, vC 94), (1, vI cup), (2, vI what), (3, vI ((nI (szS (FB (eG mu (mu 2 0)) cup) l k)) + (nI (cN (fun j => (FB (eG mu (mu 2 0)) cup) j && l j == k) 90)))), (4, vI ((nI (ccN (FB (eG mu (mu 2 0)) cup) l k)) + 0)), (5, vI (nI (cN (fun j => (FB (eG mu (mu 2 0)) cup) j && l j == k) 90))), (6, vI (nI (k + 1)))]) [0, 1, 2, 3, 4, 5, 6] (by rfl) ?_
                        rw [show ((nI (szS (FB (eG mu (mu 2 0)) cup) l k)) + (nI (cN (fun j => (FB (eG mu (mu 2 0)) cup) j && l j == k) 90))) = nI (szS (FB (eG mu (mu 2 0)) cup) l (k + 1)) from (nI_add _ _)]
                        rw [show ((nI (ccN (FB (eG mu (mu 2 0)) cup) l k)) + 0) = nI (ccN (FB (eG mu (mu 2 0)) cup) l (k + 1)) by show _ = nI (ccN (FB (eG mu (mu 2 0)) cup) l k + (if 0 < sz (FB (eG mu (mu 2 0)) cup) l k then 1 else 0)); rw [if_neg (fun h9 => absurd (nI_dec2 (a := 0) c109 (by decide) (by omega)) (by unfold sz at h9; omega))]; exact Int32.add_zero _]
                        have e5 : (nI (cN (fun j => (FB (eG mu (mu 2 0)) cup) j && l j == k) 90)) = nI (mmN (FB (eG mu (mu 2 0)) cup) l (k + 1)) := by show _ = nI (if mmN (FB (eG mu (mu 2 0)) cup) l k < sz (FB (eG mu (mu 2 0)) cup) l k then sz (FB (eG mu (mu 2 0)) cup) l k else mmN (FB (eG mu (mu 2 0)) cup) l k); rw [if_pos (show mmN (FB (eG mu (mu 2 0)) cup) l k < sz (FB (eG mu (mu 2 0)) cup) l k from nI_dec c124 (by omega) (by omega))]; rfl
                        rw [e5]
                        exact ihLP52 (k + 1) (by omega) (by omega)
                    · skip
                      refine o_iconst (v := 1) dX9_cells_112 rfl (by decide) ?_
                      refine o_goto (tgt := 117) dX9_cells_113 (by decide) ?_
                      refine o_iadd dX9_cells_117 rfl ?_
                      refine o_istore (L' := [(0, vC 94), (1, vI cup), (2, vI what), (3, vI ((nI (szS (FB (eG mu (mu 2 0)) cup) l k)) + (nI (cN (fun j => (FB (eG mu (mu 2 0)) cup) j && l j == k) 90)))), (4, vI ((nI (ccN (FB (eG mu (mu 2 0)) cup) l k)) + 1)), (5, vI (nI (mmN (FB (eG mu (mu 2 0)) cup) l k))), (6, vI (nI k)), (7, vI (nI (cN (fun j => (FB (eG mu (mu 2 0)) cup) j && l j == k) 90))), (8, vI (nI 90))]) dX9_cells_118 rfl (by decide) (by rfl) (by rfl) ?_
                      refine o_iload dX9_cells_120 rfl (by rfl) ?_
                      refine o_iload dX9_cells_122 rfl (by rfl) ?_
                      refine o_icmp_le (tgt := 132) dX9_cells_124 (by decide) rfl (fun (c124 : (nI (cN (fun j => (FB (eG mu (mu 2 0)) cup) j && l j == k) 90)) ≤ (nI (mmN (FB (eG mu (mu 2 0)) cup) l k))) => ?_) (fun (c124 : ¬ (nI (cN (fun j => (FB (eG mu (mu 2 0)) cup) j && l j == k) 90)) ≤ (nI (mmN (FB (eG mu (mu 2 0)) cup) l k))) => ?_)
                      · skip
                        refine o_iload dX9_cells_132 rfl (by rfl) ?_
                        refine o_istore (L' := [(0, vC 94), (1, vI cup), (2, vI what), (3, vI ((nI (szS (FB (eG mu (mu 2 0)) cup) l k)) + (nI (cN (fun j => (FB (eG mu (mu 2 0)) cup) j && l j == k) 90)))), (4, vI ((nI (ccN (FB (eG mu (mu 2 0)) cup) l k)) + 1)), (5, vI (nI (mmN (FB (eG mu (mu 2 0)) cup) l k))), (6, vI (nI k)), (7, vI (nI (cN (fun j => (FB (eG mu (mu 2 0)) cup) j && l j == k) 90))), (8, vI (nI 90))]) dX9_cells_134 rfl (by decide) (by rfl) (by rfl) ?_
                        refine o_iinc (v := nI (k + 1)) (L' := [(0, vC 94), (1, vI cup), (2, vI what), (3, vI ((nI (szS (FB (eG mu (mu 2 0)) cup) l k)) + (nI (cN (fun j => (FB (eG mu (mu 2 0)) cup) j && l j == k) 90)))), (4, vI ((nI (ccN (FB (eG mu (mu 2 0)) cup) l k)) + 1)), (5, vI (nI (mmN (FB (eG mu (mu 2 0)) cup) l k))), (6, vI (nI (k + 1))), (7, vI (nI (cN (fun j => (FB (eG mu (mu 2 0)) cup) j && l j == k) 90))), (8, vI (nI 90))]) dX9_cells_136 rfl (by rfl) (by exact nI_1 k) (by decide) (by rfl) (by rfl) ?_
                        refine o_goto (tgt := 52) dX9_cells_139 (by decide) ?_
                        refine o_pick (L' := [(0, vC 94), (1, vI cup), (2, vI what), (3, vI ((nI (szS (FB (eG mu (mu 2 0)) cup) l k)) + (nI (cN (fun j => (FB (eG mu (mu 2 0)) cup) j && l j == k) 90)))), (4, vI ((nI (ccN (FB (eG mu (mu 2 0)) cup) l k)) + 1)), (5, vI (nI (mmN (FB (eG mu (mu 2 0)) cup) l k))), (6, vI (nI (k + 1)))]) [0, 1, 2, 3, 4, 5, 6] (by rfl) ?_
                        rw [show ((nI (szS (FB (eG mu (mu 2 0)) cup) l k)) + (nI (cN (fun j => (FB (eG mu (mu 2 0)) cup) j && l j == k) 90))) = nI (szS (FB (eG mu (mu 2 0)) cup) l (k + 1)) from (nI_add _ _)]
                        rw [show ((nI (ccN (FB (eG mu (mu 2 0)) cup) l k)) + 1) = nI (ccN (FB (eG mu (mu 2 0)) cup) l (k + 1)) by show _ = nI (ccN (FB (eG mu (mu 2 0)) cup) l k + (if 0 < sz (FB (eG mu (mu 2 0)) cup) l k then 1 else 0)); rw [if_pos (show 0 < sz (FB (eG mu (mu 2 0)) cup) l k from nI_dec (a := 0) c109 (by decide) (by omega))]; exact nI_1 _]
                        have e5 : (nI (mmN (FB (eG mu (mu 2 0)) cup) l k)) = nI (mmN (FB (eG mu (mu 2 0)) cup) l (k + 1)) := by show _ = nI (if mmN (FB (eG mu (mu 2 0)) cup) l k < sz (FB (eG mu (mu 2 0)) cup) l k then sz (FB (eG mu (mu 2 0)) cup) l k else mmN (FB (eG mu (mu 2 0)) cup) l k); rw [if_neg (fun h9 => absurd (nI_dec2 c124 (by omega) (by omega)) (by unfold sz at h9; omega))]
                        rw [e5]
                        exact ihLP52 (k + 1) (by omega) (by omega)
                      · skip
                        refine o_iload dX9_cells_127 rfl (by rfl) ?_
                        refine o_goto (tgt := 134) dX9_cells_129 (by decide) ?_
                        refine o_istore (L' := [(0, vC 94), (1, vI cup), (2, vI what), (3, vI ((nI (szS (FB (eG mu (mu 2 0)) cup) l k)) + (nI (cN (fun j => (FB (eG mu (mu 2 0)) cup) j && l j == k) 90)))), (4, vI ((nI (ccN (FB (eG mu (mu 2 0)) cup) l k)) + 1)), (5, vI (nI (cN (fun j => (FB (eG mu (mu 2 0)) cup) j && l j == k) 90))), (6, vI (nI k)), (7, vI (nI (cN (fun j => (FB (eG mu (mu 2 0)) cup) j && l j == k) 90))), (8, vI (nI 90))]) dX9_cells_134 rfl (by decide) (by rfl) (by rfl) ?_
                        refine o_iinc (v := nI (k + 1)) (L' := [(0, vC 94), (1, vI cup), (2, vI what), (3, vI ((nI (szS (FB (eG mu (mu 2 0)) cup) l k)) + (nI (cN (fun j => (FB (eG mu (mu 2 0)) cup) j && l j == k) 90)))), (4, vI ((nI (ccN (FB (eG mu (mu 2 0)) cup) l k)) + 1)), (5, vI (nI (cN (fun j => (FB (eG mu (mu 2 0)) cup) j && l j == k) 90))), (6, vI (nI (k + 1))), (7, vI (nI (cN (fun j => (FB (eG mu (mu 2 0)) cup) j && l j == k) 90))), (8, vI (nI 90))]) dX9_cells_136 rfl (by rfl) (by exact nI_1 k) (by decide) (by rfl) (by rfl) ?_
                        refine o_goto (tgt := 52) dX9_cells_139 (by decide) ?_
                        refine o_pick (L' := [(0, vC 94), (1, vI cup), (2, vI what), (3, vI ((nI (szS (FB (eG mu (mu 2 0)) cup) l k)) + (nI (cN (fun j => (FB (eG mu (mu 2 0)) cup) j && l j == k) 90)))), (4, vI ((nI (ccN (FB (eG mu (mu 2 0)) cup) l k)) + 1)), (5, vI (nI (cN (fun j => (FB (eG mu (mu 2 0)) cup) j && l j == k) 90))), (6, vI (nI (k + 1)))]) [0, 1, 2, 3, 4, 5, 6] (by rfl) ?_
                        rw [show ((nI (szS (FB (eG mu (mu 2 0)) cup) l k)) + (nI (cN (fun j => (FB (eG mu (mu 2 0)) cup) j && l j == k) 90))) = nI (szS (FB (eG mu (mu 2 0)) cup) l (k + 1)) from (nI_add _ _)]
                        rw [show ((nI (ccN (FB (eG mu (mu 2 0)) cup) l k)) + 1) = nI (ccN (FB (eG mu (mu 2 0)) cup) l (k + 1)) by show _ = nI (ccN (FB (eG mu (mu 2 0)) cup) l k + (if 0 < sz (FB (eG mu (mu 2 0)) cup) l k then 1 else 0)); rw [if_pos (show 0 < sz (FB (eG mu (mu 2 0)) cup) l k from nI_dec (a := 0) c109 (by decide) (by omega))]; exact nI_1 _]
                        have e5 : (nI (cN (fun j => (FB (eG mu (mu 2 0)) cup) j && l j == k) 90)) = nI (mmN (FB (eG mu (mu 2 0)) cup) l (k + 1)) := by show _ = nI (if mmN (FB (eG mu (mu 2 0)) cup) l k < sz (FB (eG mu (mu 2 0)) cup) l k then sz (FB (eG mu (mu 2 0)) cup) l k else mmN (FB (eG mu (mu 2 0)) cup) l k); rw [if_pos (show mmN (FB (eG mu (mu 2 0)) cup) l k < sz (FB (eG mu (mu 2 0)) cup) l k from nI_dec c124 (by omega) (by omega))]; rfl
                        rw [e5]
                        exact ihLP52 (k + 1) (by omega) (by omega)
                  · skip
                    have hj2 := nI_dec (b := 90) c69 (by omega) (by decide)
                    refine o_iload dX9_cells_72 rfl (by rfl) ?_
                    refine o_aload_n dX9_cells_74 rfl rfl (by rfl) ?_
                    refine o_getC (q := 106) cl_X9_47 dX9_cells_75 rfl (by decide) (by rfl) (by rfl) ?_
                    refine o_iload dX9_cells_78 rfl (by rfl) ?_
                    refine o_iald dX9_cells_80 rfl (by decide) (by rfl) (by rfl) (vp_in_nI hj2 (by decide)) ?_
                    rw [nI_clamp (show j < 2 ^ 31 by omega)]
                    refine o_iload dX9_cells_81 rfl (by rfl) ?_
                    refine o_icmp_ne (tgt := 90) dX9_cells_83 (by decide) rfl (fun (c83 : ¬ (m2 106 j) = (nI k)) => ?_) (fun (c83 : (m2 106 j) = (nI k)) => ?_)
                    · skip
                      refine o_iconst (v := 0) dX9_cells_90 rfl (by decide) ?_
                      refine o_iadd dX9_cells_91 rfl ?_
                      refine o_istore (L' := [(0, vC 94), (1, vI cup), (2, vI what), (3, vI (nI (szS (FB (eG mu (mu 2 0)) cup) l k))), (4, vI (nI (ccN (FB (eG mu (mu 2 0)) cup) l k))), (5, vI (nI (mmN (FB (eG mu (mu 2 0)) cup) l k))), (6, vI (nI k)), (7, vI ((nI (cN (fun j => (FB (eG mu (mu 2 0)) cup) j && l j == k) j)) + 0)), (8, vI (nI j))]) dX9_cells_92 rfl (by decide) (by rfl) (by rfl) ?_
                      refine o_iinc (v := nI (j + 1)) (L' := [(0, vC 94), (1, vI cup), (2, vI what), (3, vI (nI (szS (FB (eG mu (mu 2 0)) cup) l k))), (4, vI (nI (ccN (FB (eG mu (mu 2 0)) cup) l k))), (5, vI (nI (mmN (FB (eG mu (mu 2 0)) cup) l k))), (6, vI (nI k)), (7, vI ((nI (cN (fun j => (FB (eG mu (mu 2 0)) cup) j && l j == k) j)) + 0)), (8, vI (nI (j + 1)))]) dX9_cells_94 rfl (by rfl) (by exact nI_1 j) (by decide) (by rfl) (by rfl) ?_
                      refine o_goto (tgt := 65) dX9_cells_97 (by decide) ?_
                      rw [show ((nI (cN (fun j => (FB (eG mu (mu 2 0)) cup) j && l j == k) j)) + 0) = nI (cN (fun j => (FB (eG mu (mu 2 0)) cup) j && l j == k) (j + 1)) by show _ = nI (cN (fun j => (FB (eG mu (mu 2 0)) cup) j && l j == k) j + (if ((FB (eG mu (mu 2 0)) cup) j && l j == k) = true then 1 else 0)); rw [if_neg (fun h9 => c83 ((lab_at hk2 (hlt j) (hL2 j hj2)).mpr h9))]; exact Int32.add_zero _]
                      exact ihLP65 (j + 1) (by omega) (by omega)
                    · skip
                      refine o_iconst (v := 1) dX9_cells_86 rfl (by decide) ?_
                      refine o_goto (tgt := 91) dX9_cells_87 (by decide) ?_
                      refine o_iadd dX9_cells_91 rfl ?_
                      refine o_istore (L' := [(0, vC 94), (1, vI cup), (2, vI what), (3, vI (nI (szS (FB (eG mu (mu 2 0)) cup) l k))), (4, vI (nI (ccN (FB (eG mu (mu 2 0)) cup) l k))), (5, vI (nI (mmN (FB (eG mu (mu 2 0)) cup) l k))), (6, vI (nI k)), (7, vI ((nI (cN (fun j => (FB (eG mu (mu 2 0)) cup) j && l j == k) j)) + 1)), (8, vI (nI j))]) dX9_cells_92 rfl (by decide) (by rfl) (by rfl) ?_
                      refine o_iinc (v := nI (j + 1)) (L' := [(0, vC 94), (1, vI cup), (2, vI what), (3, vI (nI (szS (FB (eG mu (mu 2 0)) cup) l k))), (4, vI (nI (ccN (FB (eG mu (mu 2 0)) cup) l k))), (5, vI (nI (mmN (FB (eG mu (mu 2 0)) cup) l k))), (6, vI (nI k)), (7, vI ((nI (cN (fun j => (FB (eG mu (mu 2 0)) cup) j && l j == k) j)) + 1)), (8, vI (nI (j + 1)))]) dX9_cells_94 rfl (by rfl) (by exact nI_1 j) (by decide) (by rfl) (by rfl) ?_
                      refine o_goto (tgt := 65) dX9_cells_97 (by decide) ?_
                      rw [show ((nI (cN (fun j => (FB (eG mu (mu 2 0)) cup) j && l j == k) j)) + 1) = nI (cN (fun j => (FB (eG mu (mu 2 0)) cup) j && l j == k) (j + 1)) by show _ = nI (cN (fun j => (FB (eG mu (mu 2 0)) cup) j && l j == k) j + (if ((FB (eG mu (mu 2 0)) cup) j && l j == k) = true then 1 else 0)); rw [if_pos ((lab_at hk2 (hlt j) (hL2 j hj2)).mp c83)]; exact nI_1 _]
                      exact ihLP65 (j + 1) (by omega) (by omega)
              exact LP65 91 0 (by omega) (by omega)
        exact LP52 91 0 (by omega) (by omega)
      · skip
        refine o_bipush (v := (-2)) dX9_cells_29 rfl (by decide) ?_
        exact o_iret hq dX9_cells_31 (Or.inr (Or.inl ⟨by simp [b5, b17], hA.z.mp c26, rfl, rfl⟩))
    · skip
      have b17 := (if10 h2).1 c17
      refine o_iconst (v := (-1)) dX9_cells_20 rfl (by decide) ?_
      exact o_iret hq dX9_cells_21 (Or.inl ⟨by simp [b5, b17], rfl, rfl⟩)
