theorem o_pick {X : CX} {g : GX} {own : String} {nL : Nat} {cc : ByteArray} {pc : Nat} {L L' : List (Nat × AV)} {st : List AV} {mu : Mu} (ps : List Nat) (h : ps.filterMap (fun i => L[i]?) = L') (k : WA X g own nL cc pc L' st mu) : WA X g own nL cc pc L st mu := by
  intro F H locs ls hP hS hl
  refine k F H locs ls hP hS ⟨hl.1, hl.2.1, fun q hq => ?_⟩
  obtain ⟨q0, hq0, rfl⟩ := List.mem_map.mp hq
  rw [← h] at hq0
  obtain ⟨i, -, hi⟩ := List.mem_filterMap.mp hq0
  exact hl.2.2 _ (List.mem_map.mpr ⟨q0, List.mem_of_getElem? hi, rfl⟩)
/-! ===== Table.takeAll ===== -/
def CP (mu m : Mu) (k k2 n c z i j : Nat) : Prop := m k 2 = nI z ∧ m k 1 = nI c ∧ (∀ q, (q < k ∨ k + 2 + n ≤ q) → m q = mu q) ∧ (∀ a b, a < i → b < c → m (k + 2 + a) b = mu (k2 + 2 + a) b) ∧ (∀ b, b < j → m (k + 2 + i) b = mu (k2 + 2 + i) b)
theorem CP.step {mu m : Mu} {k k2 n c z i j : Nat} {v : Int32} (h : CP mu m k k2 n c z i j) (hi : i < n) (hv : v = mu (k2 + 2 + i) j) : CP mu (upF m (k + 2 + i) j v) k k2 n c z i (j + 1) := by
  obtain ⟨h1, h2, h3, h4, h5⟩ := h
  refine ⟨by rw [upF_k (by omega)]; exact h1, by rw [upF_k (by omega)]; exact h2, fun q hq => by rw [upF_k (by omega)]; exact h3 q hq, fun a b ha hb => by rw [upF_k (by omega)]; exact h4 a b ha hb, fun b hb => ?_⟩
  by_cases e : b = j
  · subst e
    rw [upF_s, hv]
  · rw [upF_i e]
    exact h5 b (by omega)
theorem CP.next {mu m : Mu} {k k2 n c z i j : Nat} (h : CP mu m k k2 n c z i j) (hj : c ≤ j) : CP mu m k k2 n c z (i + 1) 0 := by
  obtain ⟨h1, h2, h3, h4, h5⟩ := h
  refine ⟨h1, h2, h3, fun a b ha hb => ?_, fun b hb => by omega⟩
  by_cases e : a = i
  · subst e
    exact h5 b (by omega)
  · exact h4 a b (by omega) hb
theorem tget_in {mu : Mu} {k z c i j : Nat} (h2 : mu k 2 = nI z) (h1 : mu k 1 = nI c) (hi : i < z) (hj : j < c) (hz : z < 2 ^ 31) (hc : c < 2 ^ 31) : tget mu k (nI i) (nI j) = mu (k + 2 + i) j := by
  rw [tget, if_pos, nI_clamp (by omega), nI_clamp (by omega)]
  rw [h2, h1]
  exact ⟨⟨nI_pos (by omega), nI_ge hi hz⟩, nI_pos (by omega), nI_ge hj hc⟩
theorem nI_dec {a b : Nat} (h : ¬ nI b ≤ nI a) (ha : a < 2 ^ 31) (hb : b < 2 ^ 31) : a < b := by
  rcases Nat.lt_or_ge a b with q | q
  · exact q
  · exact absurd (nI_le q ha) h
theorem nI_dec2 {a b : Nat} (h : nI b ≤ nI a) (ha : a < 2 ^ 31) (hb : b < 2 ^ 31) : b ≤ a := by
  rcases Nat.lt_or_ge a b with q | q
  · exact absurd h (nI_ge q hb)
  · exact q
set_option maxHeartbeats 4000000 in
set_option maxRecDepth 100000 in
theorem c_X6_takeAll (k k2 n c z : Nat) (hT : isTab k n c) (hT2 : isTab k2 n c) (hx : k + 2 + n ≤ k2 ∨ k2 + 2 + n ≤ k) (mu : Mu) (hO : mu k 1 = nI c) (hO2 : mu k2 1 = nI c) (hz : z ≤ n) (ez : mu k2 2 = nI z) : ConV yX6_takeAll cX6_takeAll 4 1 [vC k, vC k2] mu (fun mu2 => CP mu mu2 k k2 n c z z 0) := by
  refine conV_of (own := RX6) (by decide) rfl (Nat.le_of_ble_eq_true rfl) (fun X g hq => ?_)
  show WA X g RX6 4 cX6_takeAll 0 [(0, vC k), (1, vC k2)] [] mu
  have hn8 := hT.2.2.2.2.2.1
  have hc5 := hT.2.2.2.2.2.2
  refine o_aload_n dX6_takeAll_0 rfl rfl (by rfl) ?_
  refine o_aload_n dX6_takeAll_1 rfl rfl (by rfl) ?_
  refine o_getI cl_X6_26 dX6_takeAll_2 rfl hT2.k hT2.2.1 (by rfl) ?_
  refine o_aload_n dX6_takeAll_5 rfl rfl (by rfl) ?_
  refine o_getC (q := k+1) cl_X6_17 dX6_takeAll_6 rfl hT.k hT.2.1 (by rfl) ?_
  refine o_alenQ (v := (nI n)) dX6_takeAll_9 rfl hT.k1 hT.2.2.1 (by rfl) ?_
  refine o_mmin (d := 0) mt_X6_37 hq.2.2.2 dX6_takeAll_10 rfl (Nat.le_of_ble_eq_true rfl) ?_
  refine o_put cl_X6_26 cp_X6_2 dX6_takeAll_13 rfl hT.k hT.2.1 (by rfl) fitI ?_
  have hC0 : CP mu (upF mu k 2 (if nI n < mu k2 2 then nI n else mu k2 2)) k k2 n c z 0 0 := ⟨by rw [upF_s, ez, if_neg (nI_nlt hz (by omega))], by rw [upF_i (by decide)]; exact hO, fun q hq => upF_k (by omega), fun a b h => by omega, fun b h => by omega⟩
  refine o_iconst (v := 0) dX6_takeAll_16 rfl (by decide) ?_
  refine o_istore_n (L' := [(0, vC k), (1, vC k2), (2, vI 0)]) dX6_takeAll_17 rfl rfl (by decide) (by rfl) (by rfl) ?_
  have LP18 : ∀ (nLP18 : Nat) (i : Nat) (m : Mu) , (i ≤ z) → (CP mu m k k2 n c z i 0) → (z < i + nLP18) → WA X g RX6 4 cX6_takeAll 18 [(0, vC k), (1, vC k2), (2, vI (nI i))] [] m := by
    intro nLP18
    induction nLP18 with
    | zero =>
      intro i m hi hC hm
      exact absurd hm (by omega)
    | succ nLP18 ihLP18 =>
      intro i m hi hC hm
      refine o_iload_n dX6_takeAll_18 rfl rfl (by rfl) ?_
      refine o_aload_n dX6_takeAll_19 rfl rfl (by rfl) ?_
      refine o_getI cl_X6_26 dX6_takeAll_20 rfl hT.k hT.2.1 (by rfl) ?_
      refine o_icmp_ge (tgt := 62) dX6_takeAll_23 (by decide) rfl (fun (c23 : (m k 2) ≤ (nI i)) => ?_) (fun (c23 : ¬ (m k 2) ≤ (nI i)) => ?_)
      · skip
        rw [hC.1] at c23
        have hzi := nI_dec2 c23 (by omega) (by omega)
        have hie : i = z := by omega
        subst hie
        exact o_vret hq dX6_takeAll_62 hC
      · skip
        rw [hC.1] at c23
        have hiz := nI_dec c23 (by omega) (by omega)
        refine o_iconst (v := 0) dX6_takeAll_26 rfl (by decide) ?_
        refine o_istore_n (L' := [(0, vC k), (1, vC k2), (2, vI (nI i)), (3, vI 0)]) dX6_takeAll_27 rfl rfl (by decide) (by rfl) (by rfl) ?_
        have LP28 : ∀ (nLP28 : Nat) (j : Nat) (m2 : Mu) , (j ≤ c) → (CP mu m2 k k2 n c z i j) → (c < j + nLP28) → WA X g RX6 4 cX6_takeAll 28 [(0, vC k), (1, vC k2), (2, vI (nI i)), (3, vI (nI j))] [] m2 := by
          intro nLP28
          induction nLP28 with
          | zero =>
            intro j m2 hj0 hC2 hm2
            exact absurd hm2 (by omega)
          | succ nLP28 ihLP28 =>
            intro j m2 hj0 hC2 hm2
            refine o_iload_n dX6_takeAll_28 rfl rfl (by rfl) ?_
            refine o_aload_n dX6_takeAll_29 rfl rfl (by rfl) ?_
            refine o_getI cl_X6_22 dX6_takeAll_30 rfl hT.k hT.2.1 (by rfl) ?_
            refine o_icmp_ge (tgt := 56) dX6_takeAll_33 (by decide) rfl (fun (c33 : (m2 k 1) ≤ (nI j)) => ?_) (fun (c33 : ¬ (m2 k 1) ≤ (nI j)) => ?_)
            · skip
              rw [hC2.2.1] at c33
              have hcj := nI_dec2 c33 (by omega) (by omega)
              refine o_iinc (v := nI (i + 1)) (L' := [(0, vC k), (1, vC k2), (2, vI (nI (i + 1))), (3, vI (nI j))]) dX6_takeAll_56 rfl (by rfl) (by exact nI_1 i) (by decide) (by rfl) (by rfl) ?_
              refine o_goto (tgt := 18) dX6_takeAll_59 (by decide) ?_
              refine o_pick (L' := [(0, vC k), (1, vC k2), (2, vI (nI (i + 1)))]) [0, 1, 2] (by rfl) ?_
              exact ihLP18 (i + 1) _ (by omega) (hC2.next (by omega)) (by omega)
            · skip
              rw [hC2.2.1] at c33
              have hj := nI_dec c33 (by omega) (by omega)
              refine o_aload_n dX6_takeAll_36 rfl rfl (by rfl) ?_
              refine o_getC (q := k+1) cl_X6_17 dX6_takeAll_37 rfl hT.k hT.2.1 (by rfl) ?_
              refine o_iload_n dX6_takeAll_40 rfl rfl (by rfl) ?_
              refine o_aald dX6_takeAll_41 rfl hT.k1 hT.2.2.1 hT.2.2.2.1 (vp_in_nI (by omega) (by omega)) ?_
              refine o_iload_n dX6_takeAll_42 rfl rfl (by rfl) ?_
              refine o_aload_n dX6_takeAll_43 rfl rfl (by rfl) ?_
              refine o_iload_n dX6_takeAll_44 rfl rfl (by rfl) ?_
              refine o_iload_n dX6_takeAll_45 rfl rfl (by rfl) ?_
              refine o_callV cs_X6_get cv_X6_40 (c_X6_get k2 n c hT2 m2 ⟨by rw [hC2.2.2.1 k2 (by omega)]; exact hO2, z, hz, by rw [hC2.2.2.1 k2 (by omega)]; exact ez⟩ (nI i) (nI j)) hq.2.2.2 (Nat.le_of_ble_eq_true rfl) dX6_takeAll_46 rfl hT2.k hT2.2.1 (by rfl) (by rfl) rfl rfl (Nat.le_of_ble_eq_true rfl) (fun r mu1 h1 => ?_)
              obtain ⟨em, hr⟩ := h1
              rw [em]
              rw [tget_in (by rw [hC2.2.2.1 k2 (by omega)]; exact ez) (by rw [hC2.2.2.1 k2 (by omega)]; exact hO2) hiz hj (by omega) (by omega), hC2.2.2.1 _ (by omega)] at hr
              refine o_iast dX6_takeAll_49 rfl (by rw [nI_clamp (by omega)]; exact hT.r (by omega)) (by rw [nI_clamp (by omega)]; exact (hT.2.2.2.2.1 _ (by omega)).1) (by rw [nI_clamp (by omega)]; exact (hT.2.2.2.2.1 _ (by omega)).2) (vp_in_nI hj (by omega)) ?_
              refine o_iinc (v := nI (j + 1)) (L' := [(0, vC k), (1, vC k2), (2, vI (nI i)), (3, vI (nI (j + 1)))]) dX6_takeAll_50 rfl (by rfl) (by exact nI_1 j) (by decide) (by rfl) (by rfl) ?_
              refine o_goto (tgt := 28) dX6_takeAll_53 (by decide) ?_
              exact ihLP28 (j + 1) _ (by omega) (by rw [nI_clamp (by omega), nI_clamp (by omega)]; exact hC2.step (by omega) hr) (by omega)
        exact LP28 (c + 1) 0 _ (by omega) hC (by omega)
  exact LP18 (z + 1) 0 _ (by omega) hC0 (by omega)
