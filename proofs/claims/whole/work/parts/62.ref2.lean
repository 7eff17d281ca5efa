/-! ===== the reference: the hand's steps, the root ===== -/
def RX (mu : Mu) (cord u v : Int32) (nc np : Nat) : Prop := (mu 95 0 = cord ∧ mu 95 1 = mu 2 1 ∧ mu 95 2 = mu 2 2) ∧ (mu 3 2 = nI nc ∧ mu 94 1 = nI nc ∧ nc ≤ 4 ∧ ∀ i, i < nc → ∀ j, j < 5 → mu 96 (5 * i + j) = mu (5 + i) j) ∧ (mu 9 2 = nI np ∧ mu 94 3 = nI np ∧ np ≤ 6 ∧ (∀ i, i < np → mu 97 (3 * i) = mu (11 + i) 0) ∧ (0 < np → mu 97 1 = u ∧ mu 97 2 = v) ∧ ∀ i, 0 < i → i < np → mu 97 (3 * i + 1) = mu (11 + i) 1 ∧ mu 97 (3 * i + 2) = mu (11 + i) 2)
theorem RX.cg {mu m : Mu} {cord u v : Int32} {nc np : Nat} (h : RX mu cord u v nc np) (h1 : ∀ q, q < 53 → m q = mu q) (h2 : ∀ q, 95 ≤ q → q ≤ 97 → m q = mu q) (h3 : m 94 1 = mu 94 1) (h4 : m 94 3 = mu 94 3) : RX m cord u v nc np := by
  obtain ⟨⟨a1, a2, a3⟩, ⟨b1, b2, b3, b4⟩, ⟨c1, c2, c3, c4, c5, c6⟩⟩ := h
  refine ⟨⟨by rw [h2 95 (by decide) (by decide)]; exact a1, by rw [h2 95 (by decide) (by decide), h1 2 (by decide)]; exact a2, by rw [h2 95 (by decide) (by decide), h1 2 (by decide)]; exact a3⟩, ⟨by rw [h1 3 (by decide)]; exact b1, by rw [h3]; exact b2, b3, fun i hi j hj => by rw [h2 96 (by decide) (by decide), h1 (5 + i) (by omega)]; exact b4 i hi j hj⟩, ⟨by rw [h1 9 (by decide)]; exact c1, by rw [h4]; exact c2, c3, fun i hi => by rw [h2 97 (by decide) (by decide), h1 (11 + i) (by omega)]; exact c4 i hi, fun hp => by rw [h2 97 (by decide) (by decide)]; exact c5 hp, fun i hi hi2 => by rw [h2 97 (by decide) (by decide), h1 (11 + i) (by omega)]; exact c6 i hi hi2⟩⟩
theorem RX.pu {mu : Mu} {cord u v : Int32} {nc np : Nat} (h : RX mu cord u v nc np) {p : Nat} (hp : p < np) : mu 97 (3 * p + 1) = (if p = 0 then u else mu (11 + p) 1) ∧ mu 97 (3 * p + 2) = (if p = 0 then v else mu (11 + p) 2) := by
  obtain ⟨-, -, ⟨c1, c2, c3, c4, c5, c6⟩⟩ := h
  by_cases e : p = 0
  · rw [if_pos e, if_pos e, e]
    exact c5 (by omega)
  · rw [if_neg e, if_neg e]
    exact c6 p (by omega) hp
/-- the class's hand, p parts behind it, k steps of part p made -/
def HD (mu : Mu) (u v : Int32) (n p k : Nat) : Prop := (k = 0 ∧ hst mu u v n 3 = nI p - 1 ∧ hst mu u v n 4 = 0) ∨ (0 < k ∧ ∃ c, mu (11 + p) 0 = nI c ∧ k ≤ c ∧ c ≤ 20 ∧ hst mu u v n 3 = nI p ∧ hst mu u v n 4 = nI (c - k))
theorem hd_mid {mu : Mu} {u v : Int32} {n np p k c : Nat} (hd1 : mu 9 1 = nI 3) (ez : mu 9 2 = nI np) (hnp : np ≤ 6) (h : HD mu u v n p k) (hp : p < np) (ec : mu (11 + p) 0 = nI c) (hk : k < c) (hc : c ≤ 20) : hmid mu (hst mu u v n) = (nI p, nI (c - k)) := by
  unfold hmid
  rcases h with ⟨e0, e1, e2⟩ | ⟨e0, c', e1, e2, e2', e3, e4⟩
  · have ep : hst mu u v n 3 + 1 = nI p := by rw [e1, Int32.sub_add_cancel]
    have hx : ¬ mu 9 2 ≤ hst mu u v n 3 := by
      rw [e1, ez, i_le, nI_toInt (by omega), show (nI p - 1).toInt = (p : Int) - 1 from pk_sub_toInt (b := 1) (by omega) (by decide)]
      omega
    rw [if_pos ⟨e2, hx⟩, ep]
    have : tget mu 9 (nI p) 0 = nI c := (tget_in (j := 0) ez hd1 hp (by decide) (by omega) (by decide)).trans ec
    rw [this, e0]
    rfl
  · have ecc : c = c' := (nI_eq (by omega) (by omega)).mp (ec.symm.trans e1)
    subst ecc
    rw [if_neg, e3, e4]
    rintro ⟨q, -⟩
    rw [e4] at q
    have := (nI_eq (b := 0) (by omega) (by decide)).mp q
    omega
theorem HD.go {mu : Mu} {u v : Int32} {n np p k c : Nat} (hd1 : mu 9 1 = nI 3) (ez : mu 9 2 = nI np) (hnp : np ≤ 6) (h : HD mu u v n p k) (hp : p < np) (ec : mu (11 + p) 0 = nI c) (hk : k < c) (hc : c ≤ 20) : hU mu u v n = (if p = 0 then u else mu (11 + p) 1) ∧ hV mu u v n = (if p = 0 then v else mu (11 + p) 2) ∧ HD mu u v (n + 1) p (k + 1) := by
  have hm := hd_mid hd1 ez hnp h hp ec hk hc
  have hpos : ¬ nI (c - k) ≤ 0 := fun q => by
    have := nI_dec2 (a := 0) q (by decide) (by omega)
    omega
  have h12 := hst_1 mu u v n
  have hz : nI p = 0 ↔ p = 0 := nI_eq (b := 0) (by omega) (by decide)
  refine ⟨?_, ?_, Or.inr ⟨by omega, c, ec, by omega, hc, ?_, ?_⟩⟩
  · show hgoU mu (hst mu u v n) = _
    unfold hgoU
    rw [hm]
    show (if ¬ nI (c - k) ≤ 0 then (if nI p = 0 then hst mu u v n 1 else tget mu 9 (nI p) 1) else 0) = _
    rw [if_pos hpos, h12.1]
    by_cases e : p = 0
    · rw [if_pos e, if_pos (hz.mpr e)]
    · rw [if_neg e, if_neg (fun q => e (hz.mp q))]
      exact tget_in (j := 1) ez hd1 hp (by decide) (by omega) (by decide)
  · show hgoV mu (hst mu u v n) = _
    unfold hgoV
    rw [hm]
    show (if ¬ nI (c - k) ≤ 0 then (if nI p = 0 then hst mu u v n 2 else tget mu 9 (nI p) 2) else 0) = _
    rw [if_pos hpos, h12.2]
    by_cases e : p = 0
    · rw [if_pos e, if_pos (hz.mpr e)]
    · rw [if_neg e, if_neg (fun q => e (hz.mp q))]
      exact tget_in (j := 2) ez hd1 hp (by decide) (by omega) (by decide)
  · show (hmid mu (hst mu u v n)).1 = _
    rw [hm]
  · show (if ¬ (hmid mu (hst mu u v n)).2 ≤ 0 then (hmid mu (hst mu u v n)).2 - 1 else (hmid mu (hst mu u v n)).2) = _
    rw [hm]
    show (if ¬ nI (c - k) ≤ 0 then nI (c - k) - 1 else nI (c - k)) = _
    rw [if_pos hpos, show nI (c - k) - 1 = nI (c - k - 1) from pk_sub (b := 1) (by omega), show c - k - 1 = c - (k + 1) by omega]
theorem HD.nx {mu : Mu} {u v : Int32} {n p c : Nat} (h : HD mu u v n p c) (ec : mu (11 + p) 0 = nI c) (hc : 1 ≤ c) (hc2 : c ≤ 20) : HD mu u v n (p + 1) 0 := by
  rcases h with ⟨e0, -⟩ | ⟨e0, c', e1, e2, e2', e3, e4⟩
  · omega
  · have ecc : c = c' := (nI_eq (by omega) (by omega)).mp (ec.symm.trans e1)
    subst ecc
    exact Or.inl ⟨rfl, by rw [e3, bk1], by rw [e4, Nat.sub_self]; rfl⟩
theorem HD.fin {mu : Mu} {u v : Int32} {n np : Nat} (ez : mu 9 2 = nI np) (hnp : np ≤ 6) (h : HD mu u v n np 0) : ∀ t, hU mu u v (n + t) = 0 ∧ hV mu u v (n + t) = 0 := by
  have key : ∀ t, hst mu u v (n + t) 4 = 0 ∧ (hst mu u v (n + t) 3 = nI np - 1 ∨ hst mu u v (n + t) 3 = nI np) := by
    intro t
    induction t with
    | zero =>
      rcases h with ⟨-, h1, h2⟩ | ⟨h0, -⟩
      · exact ⟨h2, Or.inl h1⟩
      · omega
    | succ t ih =>
      have hm : hmid mu (hst mu u v (n + t)) = (nI np, 0) := by
        unfold hmid
        rcases ih.2 with e | e
        · have ep : hst mu u v (n + t) 3 + 1 = nI np := by rw [e, Int32.sub_add_cancel]
          have hx : ¬ mu 9 2 ≤ hst mu u v (n + t) 3 := by
            rw [e, ez, i_le, nI_toInt (by omega), show (nI np - 1).toInt = (np : Int) - 1 from pk_sub_toInt (b := 1) (by omega) (by decide)]
            omega
          rw [if_pos ⟨ih.1, hx⟩, ep]
          have : tget mu 9 (nI np) 0 = 0 := if_neg (fun q => q.1.2 (by rw [ez, i_le]; omega))
          rw [this]
        · rw [if_neg (fun q => q.2 (by rw [e, ez, i_le]; omega)), e, ih.1]
      refine ⟨?_, Or.inr ?_⟩
      · show (if ¬ (hmid mu (hst mu u v (n + t))).2 ≤ 0 then (hmid mu (hst mu u v (n + t))).2 - 1 else (hmid mu (hst mu u v (n + t))).2) = 0
        rw [hm]
        rfl
      · show (hmid mu (hst mu u v (n + t))).1 = _
        rw [hm]
  intro t
  have ih := key t
  have hm : (hmid mu (hst mu u v (n + t))).2 = 0 := by
    unfold hmid
    rcases ih.2 with e | e
    · have ep : hst mu u v (n + t) 3 + 1 = nI np := by rw [e, Int32.sub_add_cancel]
      have hx : ¬ mu 9 2 ≤ hst mu u v (n + t) 3 := by
        rw [e, ez, i_le, nI_toInt (by omega), show (nI np - 1).toInt = (np : Int) - 1 from pk_sub_toInt (b := 1) (by omega) (by decide)]
        omega
      rw [if_pos ⟨ih.1, hx⟩, ep]
      exact if_neg (fun q => q.1.2 (by rw [ez, i_le]; omega))
    · rw [if_neg (fun q => q.2 (by rw [e, ez, i_le]; omega))]
      exact ih.1
  refine ⟨?_, ?_⟩
  · show hgoU mu (hst mu u v (n + t)) = 0
    unfold hgoU
    rw [hm]
    rfl
  · show hgoV mu (hst mu u v (n + t)) = 0
    unfold hgoV
    rw [hm]
    rfl
def LY (mu m : Mu) (u v : Int32) (n : Nat) : Prop := (∀ q, q ≠ 102 → q ≠ 103 → m q = mu q) ∧ ∀ i, i < n → m 102 i = hU mu u v i ∧ m 103 i = hV mu u v i
theorem LY.go {mu m : Mu} {u v x y : Int32} {n : Nat} (h : LY mu m u v n) (hx : x = hU mu u v n) (hy : y = hV mu u v n) : LY mu (upF (upF m 102 n x) 103 n y) u v (n + 1) := by
  obtain ⟨h1, h2⟩ := h
  refine ⟨fun q q1 q2 => by rw [upF_k q2, upF_k q1]; exact h1 q q1 q2, fun i hi => ?_⟩
  by_cases e : i = n
  · subst e
    exact ⟨by rw [upF_k (by decide), upF_s]; exact hx, by rw [upF_s]; exact hy⟩
  · exact ⟨by rw [upF_k (by decide), upF_i e]; exact (h2 i (by omega)).1, by rw [upF_i e, upF_k (by decide)]; exact (h2 i (by omega)).2⟩
theorem SOK.st {mu : Mu} (h : SOK mu 1) {np p : Nat} (ez : mu 9 2 = nI np) (hnp : np ≤ 6) (hp : p < np) : ∃ c, mu (11 + p) 0 = nI c ∧ 1 ≤ c ∧ c ≤ 20 := by
  obtain ⟨-, -, ⟨z, h1, h2, h3, h4⟩, -⟩ := h
  have e : z = np := (nI_eq (by omega) (by omega)).mp (h3.symm.trans ez)
  subst e
  exact rg_nI (h4 p hp).1
theorem SOK.c9 {mu : Mu} (h : SOK mu 1) : mu 9 1 = nI 3 := h.t9.1
set_option maxHeartbeats 4000000 in
set_option maxRecDepth 100000 in
theorem c_X9_lays (mu : Mu) (hS : SOK mu 1) (cord u v : Int32) (nc np : Nat) (hX : RX mu cord u v nc np) : ConV yX9_lays cX9_lays 4 0 [vC 94] mu (fun mu2 => LY mu mu2 u v 100) := by
  refine conV_of (own := RX9) (by decide) rfl (Nat.le_of_ble_eq_true rfl) (fun X g hq => ?_)
  show WA X g RX9 4 cX9_lays 0 [(0, vC 94)] [] mu
  obtain ⟨ez, enp, hnp, hst9, -, -⟩ := hX.2.2
  refine o_iconst (v := 0) dX9_lays_0 rfl (by decide) ?_
  refine o_istore_n (L' := [(0, vC 94), (1, vI 0)]) dX9_lays_1 rfl rfl (by decide) (by rfl) (by rfl) ?_
  refine o_iconst (v := 0) dX9_lays_2 rfl (by decide) ?_
  refine o_istore_n (L' := [(0, vC 94), (1, vI 0), (2, vI 0)]) dX9_lays_3 rfl rfl (by decide) (by rfl) (by rfl) ?_
  have LP4 : ∀ (nLP4 : Nat) (p n : Nat) (m : Mu) , (p ≤ np) → (n ≤ 100) → (LY mu m u v n) → (n < 100 → HD mu u v n p 0) → (np < p + nLP4) → WA X g RX9 4 cX9_lays 4 [(0, vC 94), (1, vI (nI n)), (2, vI (nI p))] [] m := by
    intro nLP4
    induction nLP4 with
    | zero =>
      intro p n m hp hn hL hH hm
      exact absurd hm (by omega)
    | succ nLP4 ihLP4 =>
      intro p n m hp hn hL hH hm
      refine o_iload_n dX9_lays_4 rfl rfl (by rfl) ?_
      refine o_aload_n dX9_lays_5 rfl rfl (by rfl) ?_
      refine o_getI cl_X9_100 dX9_lays_6 rfl (by decide) (by rfl) (by rfl) ?_
      refine o_icmp_ge (tgt := 79) dX9_lays_9 (by decide) rfl (fun (c9 : (m 94 3) ≤ (nI p)) => ?_) (fun (c9 : ¬ (m 94 3) ≤ (nI p)) => ?_)
      · skip
        rw [show m 94 3 = nI np by rw [hL.1 94 (by decide) (by decide)]; exact enp] at c9
        have hp2 := nI_dec2 c9 (by omega) (by omega)
        have LP79 : ∀ (nLP79 : Nat) (n3 : Nat) (m3 : Mu) , (n3 ≤ 100) → (LY mu m3 u v n3) → (∀ t, n3 ≤ t → t < 100 → hU mu u v t = 0 ∧ hV mu u v t = 0) → (100 < n3 + nLP79) → WA X g RX9 4 cX9_lays 79 [(0, vC 94), (1, vI (nI n3)), (2, vI (nI p))] [] m3 := by
          intro nLP79
          induction nLP79 with
          | zero =>
            intro n3 m3 hn3 hL3 hZ hm3
            exact absurd hm3 (by omega)
          | succ nLP79 ihLP79 =>
            intro n3 m3 hn3 hL3 hZ hm3
            refine o_iload_n dX9_lays_79 rfl rfl (by rfl) ?_
            refine o_bipush (v := 100) dX9_lays_80 rfl (by decide) ?_
            refine o_icmp_ge (tgt := 105) dX9_lays_82 (by decide) rfl (fun (c82 : 100 ≤ (nI n3)) => ?_) (fun (c82 : ¬ 100 ≤ (nI n3)) => ?_)
            · skip
              have hn4 := nI_dec2 (b := 100) c82 (by omega) (by decide)
              have e100 : n3 = 100 := by omega
              subst e100
              exact o_vret hq dX9_lays_105 hL3
            · skip
              have hn4 := nI_dec (b := 100) c82 (by omega) (by decide)
              refine o_aload_n dX9_lays_85 rfl rfl (by rfl) ?_
              refine o_getC (q := 102) cl_X9_31 dX9_lays_86 rfl (by decide) (by rfl) (by rfl) ?_
              refine o_iload_n dX9_lays_89 rfl rfl (by rfl) ?_
              refine o_iconst (v := 0) dX9_lays_90 rfl (by decide) ?_
              refine o_iast dX9_lays_91 rfl (by decide) (by rfl) (by rfl) (vp_in_nI hn4 (by decide)) ?_
              refine o_aload_n dX9_lays_92 rfl rfl (by rfl) ?_
              refine o_getC (q := 103) cl_X9_34 dX9_lays_93 rfl (by decide) (by rfl) (by rfl) ?_
              refine o_iload_n dX9_lays_96 rfl rfl (by rfl) ?_
              refine o_iconst (v := 0) dX9_lays_97 rfl (by decide) ?_
              refine o_iast dX9_lays_98 rfl (by decide) (by rfl) (by rfl) (vp_in_nI hn4 (by decide)) ?_
              refine o_iinc (v := nI (n3 + 1)) (L' := [(0, vC 94), (1, vI (nI (n3 + 1))), (2, vI (nI p))]) dX9_lays_99 rfl (by rfl) (by exact nI_1 n3) (by decide) (by rfl) (by rfl) ?_
              refine o_goto (tgt := 79) dX9_lays_102 (by decide) ?_
              exact ihLP79 (n3 + 1) _ (by omega) (by rw [nI_clamp (by omega)]; exact hL3.go (hZ n3 (by omega) (by omega)).1.symm (hZ n3 (by omega) (by omega)).2.symm) (fun t h1 h2 => hZ t (by omega) h2) (by omega)
        exact LP79 101 n m hn hL (fun t h1 h2 => by have h9 := (hH (by omega)); rw [show p = np by omega] at h9; have h8 := h9.fin ez hnp (t - n); rw [show n + (t - n) = t by omega] at h8; exact h8) (by omega)
      · skip
        rw [show m 94 3 = nI np by rw [hL.1 94 (by decide) (by decide)]; exact enp] at c9
        have hp2 := nI_dec c9 (by omega) (by omega)
        obtain ⟨c, ec, hc1, hc20⟩ := hS.st ez hnp hp2
        refine o_iconst (v := 0) dX9_lays_12 rfl (by decide) ?_
        refine o_istore_n (L' := [(0, vC 94), (1, vI (nI n)), (2, vI (nI p)), (3, vI 0)]) dX9_lays_13 rfl rfl (by decide) (by rfl) (by rfl) ?_
        have LP14 : ∀ (nLP14 : Nat) (k n2 : Nat) (m2 : Mu) , (k ≤ c) → (n2 ≤ 100) → (LY mu m2 u v n2) → (n2 < 100 → HD mu u v n2 p k) → (c < k + nLP14) → WA X g RX9 4 cX9_lays 14 [(0, vC 94), (1, vI (nI n2)), (2, vI (nI p)), (3, vI (nI k))] [] m2 := by
          intro nLP14
          induction nLP14 with
          | zero =>
            intro k n2 m2 hk hn2 hL2 hH2 hm2
            exact absurd hm2 (by omega)
          | succ nLP14 ihLP14 =>
            intro k n2 m2 hk hn2 hL2 hH2 hm2
            have ec2 : m2 97 (3 * nI p).toNatClampNeg = nI c := by rw [hL2.1 97 (by decide) (by decide), show (3 * nI p).toNatClampNeg = 3 * p from ixm (a := 3) (by omega), hst9 p (by omega)]; exact ec
            refine o_iload_n dX9_lays_14 rfl rfl (by rfl) ?_
            refine o_aload_n dX9_lays_15 rfl rfl (by rfl) ?_
            refine o_getC (q := 97) cl_X9_16 dX9_lays_16 rfl (by decide) (by rfl) (by rfl) ?_
            refine o_iconst (v := 3) dX9_lays_19 rfl (by decide) ?_
            refine o_iload_n dX9_lays_20 rfl rfl (by rfl) ?_
            refine o_imul dX9_lays_21 rfl ?_
            refine o_iald dX9_lays_22 rfl (by decide) (by rfl) (by rfl) (ixc (a := 3) (by omega) (by decide)) ?_
            refine o_icmp_ge (tgt := 73) dX9_lays_23 (by decide) rfl (fun (c23 : (m2 97 (3 * nI p).toNatClampNeg) ≤ (nI k)) => ?_) (fun (c23 : ¬ (m2 97 (3 * nI p).toNatClampNeg) ≤ (nI k)) => ?_)
            · skip
              rw [ec2] at c23
              have hk2 := nI_dec2 c23 (by omega) (by omega)
              have hH3 : n2 < 100 → HD mu u v n2 (p + 1) 0 := fun h9 => by have h8 := hH2 h9; rw [show k = c by omega] at h8; exact h8.nx ec hc1 hc20
              refine o_iinc (v := nI (p + 1)) (L' := [(0, vC 94), (1, vI (nI n2)), (2, vI (nI (p + 1))), (3, vI (nI k))]) dX9_lays_73 rfl (by rfl) (by exact nI_1 p) (by decide) (by rfl) (by rfl) ?_
              refine o_goto (tgt := 4) dX9_lays_76 (by decide) ?_
              refine o_pick (L' := [(0, vC 94), (1, vI (nI n2)), (2, vI (nI (p + 1)))]) [0, 1, 2] (by rfl) ?_
              exact ihLP4 (p + 1) n2 m2 (by omega) hn2 hL2 hH3 (by omega)
            · skip
              rw [ec2] at c23
              have hk2 := nI_dec c23 (by omega) (by omega)
              refine o_iload_n dX9_lays_26 rfl rfl (by rfl) ?_
              refine o_bipush (v := 100) dX9_lays_27 rfl (by decide) ?_
              refine o_icmp_ge (tgt := 73) dX9_lays_29 (by decide) rfl (fun (c29 : 100 ≤ (nI n2)) => ?_) (fun (c29 : ¬ 100 ≤ (nI n2)) => ?_)
              · skip
                have hn4 := nI_dec2 (b := 100) c29 (by omega) (by decide)
                have hH3 : n2 < 100 → HD mu u v n2 (p + 1) 0 := fun h9 => by omega
                refine o_iinc (v := nI (p + 1)) (L' := [(0, vC 94), (1, vI (nI n2)), (2, vI (nI (p + 1))), (3, vI (nI k))]) dX9_lays_73 rfl (by rfl) (by exact nI_1 p) (by decide) (by rfl) (by rfl) ?_
                refine o_goto (tgt := 4) dX9_lays_76 (by decide) ?_
                refine o_pick (L' := [(0, vC 94), (1, vI (nI n2)), (2, vI (nI (p + 1)))]) [0, 1, 2] (by rfl) ?_
                exact ihLP4 (p + 1) n2 m2 (by omega) hn2 hL2 hH3 (by omega)
              · skip
                have hn4 := nI_dec (b := 100) c29 (by omega) (by decide)
                have hg := (hH2 hn4).go hS.c9 ez hnp hp2 ec hk2 hc20
                refine o_aload_n dX9_lays_32 rfl rfl (by rfl) ?_
                refine o_getC (q := 102) cl_X9_31 dX9_lays_33 rfl (by decide) (by rfl) (by rfl) ?_
                refine o_iload_n dX9_lays_36 rfl rfl (by rfl) ?_
                refine o_aload_n dX9_lays_37 rfl rfl (by rfl) ?_
                refine o_getC (q := 97) cl_X9_16 dX9_lays_38 rfl (by decide) (by rfl) (by rfl) ?_
                refine o_iconst (v := 3) dX9_lays_41 rfl (by decide) ?_
                refine o_iload_n dX9_lays_42 rfl rfl (by rfl) ?_
                refine o_imul dX9_lays_43 rfl ?_
                refine o_iconst (v := 1) dX9_lays_44 rfl (by decide) ?_
                refine o_iadd dX9_lays_45 rfl ?_
                refine o_iald dX9_lays_46 rfl (by decide) (by rfl) (by rfl) (ixb (a := 3) (t := 1) (by omega) (by decide)) ?_
                refine o_iast dX9_lays_47 rfl (by decide) (by rfl) (by rfl) (vp_in_nI hn4 (by decide)) ?_
                refine o_aload_n dX9_lays_48 rfl rfl (by rfl) ?_
                refine o_getC (q := 103) cl_X9_34 dX9_lays_49 rfl (by decide) (by rfl) (by rfl) ?_
                refine o_iload_n dX9_lays_52 rfl rfl (by rfl) ?_
                refine o_aload_n dX9_lays_53 rfl rfl (by rfl) ?_
                refine o_getC (q := 97) cl_X9_16 dX9_lays_54 rfl (by decide) (by rfl) (by rfl) ?_
                refine o_iconst (v := 3) dX9_lays_57 rfl (by decide) ?_
                refine o_iload_n dX9_lays_58 rfl rfl (by rfl) ?_
                refine o_imul dX9_lays_59 rfl ?_
                refine o_iconst (v := 2) dX9_lays_60 rfl (by decide) ?_
                refine o_iadd dX9_lays_61 rfl ?_
                refine o_iald dX9_lays_62 rfl (by decide) (by rfl) (by rfl) (ixb (a := 3) (t := 2) (by omega) (by decide)) ?_
                refine o_iast dX9_lays_63 rfl (by decide) (by rfl) (by rfl) (vp_in_nI hn4 (by decide)) ?_
                refine o_iinc (v := nI (n2 + 1)) (L' := [(0, vC 94), (1, vI (nI (n2 + 1))), (2, vI (nI p)), (3, vI (nI k))]) dX9_lays_64 rfl (by rfl) (by exact nI_1 n2) (by decide) (by rfl) (by rfl) ?_
                refine o_iinc (v := nI (k + 1)) (L' := [(0, vC 94), (1, vI (nI (n2 + 1))), (2, vI (nI p)), (3, vI (nI (k + 1)))]) dX9_lays_67 rfl (by rfl) (by exact nI_1 k) (by decide) (by rfl) (by rfl) ?_
                refine o_goto (tgt := 14) dX9_lays_70 (by decide) ?_
                exact ihLP14 (k + 1) (n2 + 1) _ (by omega) (by omega) (by rw [nI_clamp (by omega)]; exact hL2.go (by rw [hg.1, ← (hX.pu hp2).1, hL2.1 97 (by decide) (by decide)]; congr 1; exact ixl (a := 3) (t := 1) (by omega)) (by rw [hg.2.1, ← (hX.pu hp2).2, upF_k (by decide), hL2.1 97 (by decide) (by decide)]; congr 1; exact ixl (a := 3) (t := 2) (by omega))) (fun _ => hg.2.2) (by omega)
        exact LP14 (c + 1) 0 n m (by omega) hn hL hH (by omega)
  exact LP4 (np + 1) 0 0 _ (by omega) (by omega) ⟨fun _ _ _ => rfl, fun i hi => by omega⟩ (fun _ => Or.inl ⟨rfl, rfl, rfl⟩) (by omega)
set_option maxHeartbeats 4000000 in
set_option maxRecDepth 100000 in
theorem c_X9_root (mu : Mu) (sq : Int32) (S : Nat) (esq : sq = nI S) (hS : S ≤ 1000000) : Con yX9_root cX9_root 2 (some .int) 0 [vI sq] mu (fun r mu2 => mu2 = mu ∧ ∃ i, r = nI i ∧ i * i ≤ S ∧ S < (i + 1) * (i + 1)) := by
  refine con_of (own := RX9) (by decide) rfl (Nat.le_of_ble_eq_true rfl) (fun X g hq => ?_)
  show WA X g RX9 2 cX9_root 0 [(0, vI sq)] [] mu
  refine o_iconst (v := 0) dX9_root_0 rfl (by decide) ?_
  refine o_istore_n (L' := [(0, vI sq), (1, vI 0)]) dX9_root_1 rfl rfl (by decide) (by rfl) (by rfl) ?_
  have LP2 : ∀ (nLP2 : Nat) (i : Nat) , (i * i ≤ S) → (1000 < i + nLP2) → WA X g RX9 2 cX9_root 2 [(0, vI sq), (1, vI (nI i))] [] mu := by
    intro nLP2
    induction nLP2 with
    | zero =>
      intro i h3 hm
      exact absurd hm (by have hi : i ≤ 1000 := Nat.le_of_not_lt (fun q => by have := Nat.mul_le_mul (show 1001 ≤ i from q) (show 1001 ≤ i from q); omega); omega)
    | succ nLP2 ihLP2 =>
      intro i h3 hm
      have hi : i ≤ 1000 := Nat.le_of_not_lt (fun q => by have := Nat.mul_le_mul (show 1001 ≤ i from q) (show 1001 ≤ i from q); omega)
      refine o_iload_n dX9_root_2 rfl rfl (by rfl) ?_
      refine o_iconst (v := 1) dX9_root_3 rfl (by decide) ?_
      refine o_iadd dX9_root_4 rfl ?_
      refine o_iload_n dX9_root_5 rfl rfl (by rfl) ?_
      refine o_iconst (v := 1) dX9_root_6 rfl (by decide) ?_
      refine o_iadd dX9_root_7 rfl ?_
      refine o_imul dX9_root_8 rfl ?_
      refine o_iload_n dX9_root_9 rfl rfl (by rfl) ?_
      refine o_icmp_gt (tgt := 19) dX9_root_10 (by decide) rfl (fun (c10 : sq < (((nI i) + 1) * ((nI i) + 1))) => ?_) (fun (c10 : ¬ sq < (((nI i) + 1) * ((nI i) + 1))) => ?_)
      · skip
        rw [esq, nI_1, pk_mul] at c10
        have hlt := (nI_ltI (by omega) (by have := Nat.mul_le_mul (show i + 1 ≤ 1001 by omega) (show i + 1 ≤ 1001 by omega); omega)).mp c10
        refine o_iload_n dX9_root_19 rfl rfl (by rfl) ?_
        exact o_iret hq dX9_root_20 ⟨rfl, i, rfl, h3, hlt⟩
      · skip
        rw [esq, nI_1, pk_mul] at c10
        have hle : (i + 1) * (i + 1) ≤ S := Nat.le_of_not_lt (fun q => c10 ((nI_ltI (by omega) (by have := Nat.mul_le_mul (show i + 1 ≤ 1001 by omega) (show i + 1 ≤ 1001 by omega); omega)).mpr q))
        refine o_iinc (v := nI (i + 1)) (L' := [(0, vI sq), (1, vI (nI (i + 1)))]) dX9_root_13 rfl (by rfl) (by exact nI_1 i) (by decide) (by rfl) (by rfl) ?_
        refine o_goto (tgt := 2) dX9_root_16 (by decide) ?_
        exact ihLP2 (i + 1) hle (by omega)
  exact LP2 1001 0 (by omega) (by omega)
