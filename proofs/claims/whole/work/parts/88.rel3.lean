/-! ===== the tape ===== -/
theorem tyB_y {w : Int64} : ∀ {n : Nat}, tyB w n = true → ∀ k, k < n → inB (byV w k) 32 126 = true
  | n + 1, h, k, hk => by
    have h2 := Bool.and_eq_true_iff.mp (show (tyB w n && inB (byV w n) 32 126) = true from h)
    by_cases e : k = n
    · subst e
      exact h2.2
    · exact tyB_y h2.1 k (by omega)
theorem in_ne {x : Int32} (h : inB x 32 126 = true) : ¬ x = 0 ∧ ¬ x = -1 :=
  ⟨fun e => by rw [e] at h; exact absurd h (by decide), fun e => by rw [e] at h; exact absurd h (by decide)⟩
/-- the tape apart, the rest stays -/
theorem RelN.tp {mu m : Mu} {nc np nt : Nat} (h : RelN mu nc np nt) (f : ∀ q, (q < 53 ∨ (86 ≤ q ∧ q ≤ 93) ∨ (95 ≤ q ∧ q ≤ 98) ∨ 108 ≤ q) → m q = mu q) (f2 : ∀ j, j ≠ 8 → j ≠ 9 → j ≠ 10 → m 94 j = mu 94 j) (h3 : R3 m) : RelN m nc np nt :=
  ⟨h.1.cg (fun q _ _ => f q (by omega)) (fun q _ _ => f q (by omega)) (fun j _ => f2 j (by omega) (by omega) (by omega)), h.2.1.cg (by rw [f 0 (by omega)]) (fun q _ _ => f q (by omega)) (f 108 (by omega)) (f2 36 (by omega) (by omega) (by omega)), h3, h.2.2.2.1.cg (fun q _ => f q (by omega)), h.2.2.2.2.cg (fun j _ => f2 j (by omega) (by omega) (by omega))⟩
set_option maxRecDepth 100000 in
theorem q_type (mu : Mu) (h : Rel mu) (w : Int64) (n : Int32) : Con yX8_type cX8_type 5 (some .int) 1 [vC 0, vJ w, vI n] mu (fun r m1 => Con yX9_type cX9_type 5 (some .int) 1 [vC 94, vJ w, vI n] m1 (fun r2 m2 => r2 = r ∧ Rel m2)) := by
  obtain ⟨nc, np, nt, h⟩ := h
  obtain ⟨⟨z, hz, t1, t2, t3⟩, t4, t5, t6⟩ := id h.2.2.1
  refine con_wk (c_X8_type mu w n z t1 hz) (fun r m1 h1 => ?_)
  have hf : ∀ q, q ≠ 70 → q ≠ 71 → m1 q = mu q := fun q q1 q2 => by
    rcases h1 with ⟨-, -, rfl⟩ | ⟨N, -, -, -, ⟨-, -, rfl⟩ | ⟨-, ⟨-, -, rfl⟩ | ⟨-, -, A⟩⟩⟩
    · rfl
    · rfl
    · rfl
    · exact A.2.2.1 q q1 q2
  refine con_wk (c_X9_type m1 w n z (by rw [hf 94 (by omega) (by omega)]; exact t2) hz) (fun r2 m2 h2 => ?_)
  rcases h1 with ⟨g, e1, rfl⟩ | ⟨N, en, n1, n2, h1⟩ <;> rcases h2 with ⟨g2, e4, rfl⟩ | ⟨N2, en2, n3, n4, h2⟩
  · exact ⟨by rw [e4, e1], .of h⟩
  · exfalso
    apply g
    rw [en2]
    show inB (nI N2) (nI 1) (nI 8) = true
    unfold inB
    rw [decide_eq_true_eq, nI_ltI (by omega) (by omega), nI_ltI (by omega) (by omega)]
    omega
  · exfalso
    apply g2
    rw [en]
    show inB (nI N) (nI 1) (nI 8) = true
    unfold inB
    rw [decide_eq_true_eq, nI_ltI (by omega) (by omega), nI_ltI (by omega) (by omega)]
    omega
  · have eN := nI_in1 en2 en (by omega) (by omega)
    subst eN
    rcases h1 with ⟨g, e1, rfl⟩ | ⟨g, h1⟩ <;> rcases h2 with ⟨g2, e4, rfl⟩ | ⟨g2, h2⟩
    · exact ⟨by rw [e4, e1], .of h⟩
    · exact bf g2 g
    · exact bf g g2
    · rcases h1 with ⟨x, e1, rfl⟩ | ⟨x, e1, A⟩ <;> rcases h2 with ⟨y, e4, rfl⟩ | ⟨y, e4, B⟩
      · exact ⟨by rw [e4, e1], .of h⟩
      · exact absurd x (by omega)
      · exact absurd y (by omega)
      · obtain ⟨a1, a2, a3, a4, a5⟩ := A
        obtain ⟨b1, b2, b3, b4, b5⟩ := B
        have e99 : m1 99 = mu 99 := hf 99 (by omega) (by omega)
        have e71 : m2 71 = m1 71 := b3 71 (by omega) (by omega)
        refine ⟨by rw [e4, e1], nc, np, nt, h.tp (fun q hq => (b3 q (by omega) (by omega)).trans (hf q (by omega) (by omega))) (fun j j1 _ _ => by rw [b2 j j1, hf 94 (by omega) (by omega)]) ⟨⟨z + N2, y, by rw [b3 70 (by omega) (by omega)]; exact a1, b1, fun i hi => ?_⟩, ?_, by rw [b3 72 (by omega) (by omega), hf 72 (by omega) (by omega)]; exact t5, by rw [b3 78 (by omega) (by omega), hf 78 (by omega) (by omega)]; exact t6⟩⟩
        · by_cases e : i < z
          · rw [b4 i (Or.inl e), e99]
            exact t3 i e
          · have h9 := b5 (i - z) (by omega)
            rw [show z + (i - z) = i by omega] at h9
            rw [h9]
            exact tyB_y g _ (by omega)
        · funext j
          rw [e71]
          by_cases e : j < z ∨ z + N2 ≤ j
          · rw [a4 j e, b4 j e, e99, t4]
          · have h8 := a5 (j - z) (by omega)
            have h9 := b5 (j - z) (by omega)
            rw [show z + (j - z) = j by omega] at h8 h9
            rw [h8, h9]
theorem pDg_rg {T : Vc} {n : Nat} {s : PSt} (h : (pDg T n s).2.2 = true) : rg (pDg T n s).1 0 9 := by
  unfold pDg at h ⊢
  split
  · rename_i h1
    rw [if_pos h1] at h
    split
    · rename_i h2
      obtain ⟨d, ed, d1, d2⟩ := dig_nI h2
      show rg (nx T n s.1 - 48) 0 9
      rw [ed, show (48 : Int32) = nI 48 from rfl, pk_sub d1]
      unfold rg
      rw [nI_toInt (by omega)]
      omega
    · exact (show rg 0 0 9 from ⟨by decide, by decide⟩)
  · exact (show rg 0 0 9 from ⟨by decide, by decide⟩)
theorem rg_neg {x : Int32} (h : rg x 0 9) : rg (-x) (-9) 9 := by
  unfold rg at h ⊢
  rw [i_neg (by omega)]
  omega
theorem rg_w {x : Int32} (h : rg x 0 9) : rg x (-9) 9 := by
  unfold rg at h ⊢
  omega
theorem pSg_rg {T : Vc} {n : Nat} {s : PSt} (h : (pSg T n s).2.2 = true) : rg (pSg T n s).1 (-9) 9 := by
  unfold pSg at h ⊢
  split
  · rename_i h1
    rw [if_pos h1] at h
    exact rg_neg (pDg_rg h)
  · rename_i h1
    rw [if_neg h1] at h
    split
    · rename_i h2
      rw [if_pos h2] at h
      exact rg_w (pDg_rg h)
    · exact (show rg 0 (-9) 9 from ⟨by decide, by decide⟩)
theorem pNm_rg {T : Vc} {n lo hi : Nat} {s : PSt} (h : (pNm T n lo hi s).2.2 = true) : lo ≤ (pNm T n lo hi s).1 ∧ (pNm T n lo hi s).1 ≤ hi := by
  unfold pNm at h ⊢
  split
  · rename_i h1
    rw [if_pos h1] at h
    split
    · rename_i h2
      rw [if_pos h2] at h
      split
      · rename_i h3
        exact h3
      · rename_i h3
        rw [if_neg h3] at h
        cases h
    · rename_i h2
      rw [if_neg h2] at h
      cases h
  · rename_i h1
    rw [if_neg h1] at h
    exact absurd h h1
theorem rg_ofN {a lo hi : Nat} (h1 : lo ≤ a) (h2 : a ≤ hi) (h3 : hi < 1000) : rg (nI a) lo hi := by
  unfold rg
  rw [nI_toInt (by omega)]
  omega
theorem cup_rg {T : Vc} {n : Nat} {s : PSt} (h : (pCup T n s).2 = true) : rg (cupV T n s 0) (-9) 9 ∧ rg (cupV T n s 1) (-9) 9 ∧ rg (cupV T n s 2) 0 9 ∧ rg (cupV T n s 3) 0 99 ∧ rg (cupV T n s 4) 0 1 := by
  have hF : (cF T n s).2 = true := by
    unfold pCup at h
    split at h
    · exact pNm_ok h
    · exact h
  have hD : (cD T n s).2 = true := (pTk_st.symm.trans (pTk_st.symm.trans hF))
  have h2 := pDg_ok hD
  have h1 := pSg_ok h2
  refine ⟨pSg_rg h1, pSg_rg h2, pDg_rg hD, ?_, ?_⟩
  · show rg (if (pTk T n 58 (cE T n s)).1 = true then nI (pNm T n 0 99 (cF T n s)).1 else 1) 0 99
    split
    · rename_i h5
      unfold pCup at h
      rw [if_pos h5] at h
      have h6 := pNm_rg h
      exact rg_ofN h6.1 h6.2 (by decide)
    · exact ⟨by decide, by decide⟩
  · show rg (if (pTk T n 115 (cD T n s)).1 = true then 1 else 0) 0 1
    split <;> exact ⟨by decide, by decide⟩
theorem part_rgV {T : Vc} {n : Nat} {s : PSt} (h : (pPart T n s).2 = true) : rg (partV T n s 0) 1 20 ∧ rg (partV T n s 1) (-9) 9 ∧ rg (partV T n s 2) (-9) 9 := by
  have h2 := pSg_ok h
  have h1 := pSg_ok h2
  have h6 := pNm_rg h1
  exact ⟨rg_ofN h6.1 h6.2 (by decide), pSg_rg h2, pSg_rg h⟩
theorem R3.emp {mu m : Mu} (h : R3 mu) (h1 : m 70 1 = 0) (h2 : m 94 8 = 0) (h3 : m 71 = mu 71) (h4 : m 99 = mu 99) (h5 : m 72 1 = nI 5) (h6 : m 78 1 = nI 3) : R3 m := ⟨⟨0, by omega, h1, h2, fun i hi => by omega⟩, by rw [h3, h4]; exact h.2.1, h5, h6⟩
set_option maxRecDepth 100000 in
theorem q_toy (mu : Mu) (h : Rel mu) : Con yX8_toy cX8_toy 2 (some .int) 5 [vC 0] mu (fun r m1 => Con yX9_toy cX9_toy 3 (some .int) 5 [vC 94] m1 (fun r2 m2 => r2 = r ∧ Rel m2)) := by
  obtain ⟨nc, np, nt, h⟩ := h
  obtain ⟨⟨z, hz, t1, t2, t3⟩, t4, t5, t6⟩ := id h.2.2.1
  refine con_wk (c_X8_toy mu z t1 hz t5 h.1.1.pc.1.2.1) (fun r m1 h1 => ?_)
  obtain ⟨N, E, a1, a2, a3, a4, a5, a6⟩ := h1
  have e99 : m1 99 = mu 71 := (a5 99 (by omega) (by omega) (by omega)).trans t4.symm
  have e94 : m1 94 = mu 94 := a5 94 (by omega) (by omega) (by omega)
  refine con_wk (c_X9_toy m1 z (by rw [e94]; exact t2) hz (fun i hi => by rw [e99, t4]; exact in_ne (t3 i hi))) (fun r2 m2 h2 => ?_)
  obtain ⟨N2, E2, b1, b2, b3, b4, b5, b6⟩ := h2
  rw [e99] at b1 b2 b6
  obtain ⟨eN, eE⟩ := b1.one a1
  subst eN
  subst eE
  have hR3 : R3 m2 := h.2.2.1.emp (by rw [b4 70 (by omega) (by omega) (by omega)]; exact a3) b3 (by rw [b4 71 (by omega) (by omega) (by omega)]; exact a5 71 (by omega) (by omega) (by omega)) (by rw [b4 99 (by omega) (by omega) (by omega), e99, t4]) (by rw [b4 72 (by omega) (by omega) (by omega)]; exact a4) (by rw [b4 78 (by omega) (by omega) (by omega), a5 78 (by omega) (by omega) (by omega)]; exact t6)
  have hf : ∀ q, (q < 3 ∨ (9 ≤ q ∧ q < 70) ∨ (86 ≤ q ∧ q ≤ 93) ∨ (q = 95 ∨ q = 97 ∨ q = 98) ∨ 101 ≤ q) → m2 q = mu q := fun q hq => (b4 q (by omega) (by omega) (by omega)).trans (a5 q (by omega) (by omega) (by omega))
  have hf2 : ∀ j, j ≠ 8 → j ≠ 9 → j ≠ 10 → j ≠ 1 → m2 94 j = mu 94 j := fun j j1 j2 j3 j4 => by rw [b5 j j1 j2 j3 j4, e94]
  refine ⟨by rw [b2, a2], ?_⟩
  have hR0 : R2 m2 ∧ R3 m2 ∧ R4 m2 ∧ R5 m2 := ⟨h.2.1.cg (by rw [hf 0 (by omega)]) (fun q _ _ => hf q (by omega)) (hf 108 (by omega)) (hf2 36 (by omega) (by omega) (by omega) (by omega)), hR3, h.2.2.2.1.cg (fun q _ => hf q (by omega)), h.2.2.2.2.cg (fun j _ => hf2 j (by omega) (by omega) (by omega) (by omega))⟩
  have hp := h.1.1.pp.cg (m := m2) (C2 := m2 97) (fun q _ _ => hf q (by omega)) (fun j _ => by rw [hf 97 (by omega)])
  have ht := h.1.1.pt.cg (m := m2) (C2 := m2 98) (fun q _ _ => hf q (by omega)) (fun j _ => by rw [hf 98 (by omega)])
  have hs := h.1.1.ps.cg (m := m2) (S2 := m2 95) (hf (1 + 1) (by omega)) (fun j _ => by rw [hf 95 (by omega)])
  rcases a6 with ⟨x1, x2, x3, x4, x5⟩ | ⟨x1, x2⟩ <;> rcases b6 with ⟨y1, y2, y3, y4⟩ | ⟨y1, y2, y3⟩
  · have hN := a1.2.1
    refine ⟨N2, np, nt, ⟨SR.mk hs ⟨⟨hN, by rw [b4 (1 + 2) (by omega) (by omega) (by omega)]; exact x4, by rw [b4 (1 + 2) (by omega) (by omega) (by omega)]; exact x3, fun i hi => ?_⟩, fun i hi j hj => ?_⟩ hp ht, y3, by rw [hf2 3 (by omega) (by omega) (by omega) (by omega)]; exact h.1.2.2.1, by rw [hf2 5 (by omega) (by omega) (by omega) (by omega)]; exact h.1.2.2.2⟩, hR0⟩
    · rw [b4 (1 + 4 + i) (by omega) (by omega) (by omega), show m1 (1 + 4 + i) 0 = _ from x5 i hi 0 (by omega), show m1 (1 + 4 + i) 1 = _ from x5 i hi 1 (by omega), show m1 (1 + 4 + i) 2 = _ from x5 i hi 2 (by omega), show m1 (1 + 4 + i) 3 = _ from x5 i hi 3 (by omega), show m1 (1 + 4 + i) 4 = _ from x5 i hi 4 (by omega)]
      exact cup_rg (a1.ok x1 i hi)
    · rw [b4 (1 + 4 + i) (by omega) (by omega) (by omega), y4 i hi j hj]
      exact (x5 i hi j hj).symm
  · exact absurd ⟨x1, x2⟩ y1
  · exact absurd ⟨y1, y2⟩ x1
  · exact ⟨nc, np, nt, ⟨SR.mk hs (h.1.1.pc.cg (fun q q1 q2 => by rw [b4 q (by omega) (by omega) (by omega)]; exact x2 q (by omega) (by omega)) (fun j _ => by rw [y3, a5 96 (by omega) (by omega) (by omega)])) hp ht, by rw [y2, e94]; exact h.1.2.1, by rw [hf2 3 (by omega) (by omega) (by omega) (by omega)]; exact h.1.2.2.1, by rw [hf2 5 (by omega) (by omega) (by omega) (by omega)]; exact h.1.2.2.2⟩, hR0⟩
set_option maxRecDepth 100000 in
theorem q_pulls (mu : Mu) (h : Rel mu) : Con yX8_pulls cX8_pulls 2 (some .int) 5 [vC 0] mu (fun r m1 => Con yX9_pulls cX9_pulls 3 (some .int) 5 [vC 94] m1 (fun r2 m2 => r2 = r ∧ Rel m2)) := by
  obtain ⟨nc, np, nt, h⟩ := h
  obtain ⟨⟨z, hz, t1, t2, t3⟩, t4, t5, t6⟩ := id h.2.2.1
  refine con_wk (c_X8_pulls mu z t1 hz t6 h.1.1.pp.1.2.1) (fun r m1 h1 => ?_)
  obtain ⟨N, E, a1, a2, a3, a4, a5, a6⟩ := h1
  have e99 : m1 99 = mu 71 := (a5 99 (by omega) (by omega) (by omega)).trans t4.symm
  have e94 : m1 94 = mu 94 := a5 94 (by omega) (by omega) (by omega)
  refine con_wk (c_X9_pulls m1 z (by rw [e94]; exact t2) hz (fun i hi => by rw [e99, t4]; exact in_ne (t3 i hi))) (fun r2 m2 h2 => ?_)
  obtain ⟨N2, E2, b1, b2, b3, b4, b5, b6⟩ := h2
  rw [e99] at b1 b2 b6
  obtain ⟨eN, eE⟩ := b1.one a1
  subst eN
  subst eE
  have hR3 : R3 m2 := h.2.2.1.emp (by rw [b4 70 (by omega) (by omega) (by omega)]; exact a3) b3 (by rw [b4 71 (by omega) (by omega) (by omega)]; exact a5 71 (by omega) (by omega) (by omega)) (by rw [b4 99 (by omega) (by omega) (by omega), e99, t4]) (by rw [b4 72 (by omega) (by omega) (by omega), a5 72 (by omega) (by omega) (by omega)]; exact t5) (by rw [b4 78 (by omega) (by omega) (by omega)]; exact a4)
  have hf : ∀ q, (q < 9 ∨ (17 ≤ q ∧ q < 70) ∨ (86 ≤ q ∧ q ≤ 93) ∨ (q = 95 ∨ q = 96 ∨ q = 98) ∨ 101 ≤ q) → m2 q = mu q := fun q hq => (b4 q (by omega) (by omega) (by omega)).trans (a5 q (by omega) (by omega) (by omega))
  have hf2 : ∀ j, j ≠ 8 → j ≠ 9 → j ≠ 10 → j ≠ 3 → m2 94 j = mu 94 j := fun j j1 j2 j3 j4 => by rw [b5 j j1 j2 j3 j4, e94]
  refine ⟨by rw [b2, a2], ?_⟩
  have hR0 : R2 m2 ∧ R3 m2 ∧ R4 m2 ∧ R5 m2 := ⟨h.2.1.cg (by rw [hf 0 (by omega)]) (fun q _ _ => hf q (by omega)) (hf 108 (by omega)) (hf2 36 (by omega) (by omega) (by omega) (by omega)), hR3, h.2.2.2.1.cg (fun q _ => hf q (by omega)), h.2.2.2.2.cg (fun j _ => hf2 j (by omega) (by omega) (by omega) (by omega))⟩
  have hp := h.1.1.pc.cg (m := m2) (C2 := m2 96) (fun q _ _ => hf q (by omega)) (fun j _ => by rw [hf 96 (by omega)])
  have ht := h.1.1.pt.cg (m := m2) (C2 := m2 98) (fun q _ _ => hf q (by omega)) (fun j _ => by rw [hf 98 (by omega)])
  have hs := h.1.1.ps.cg (m := m2) (S2 := m2 95) (hf (1 + 1) (by omega)) (fun j _ => by rw [hf 95 (by omega)])
  rcases a6 with ⟨x1, x2, x3, x4, x5⟩ | ⟨x1, x2⟩ <;> rcases b6 with ⟨y1, y2, y3, y4⟩ | ⟨y1, y2, y3⟩
  · have hN := a1.2.1
    refine ⟨nc, N2, nt, ⟨SR.mk hs hp ⟨⟨hN, by rw [b4 (1 + 8) (by omega) (by omega) (by omega)]; exact x4, by rw [b4 (1 + 8) (by omega) (by omega) (by omega)]; exact x3, fun i hi => ?_⟩, fun i hi j hj => ?_⟩ ht, by rw [hf2 1 (by omega) (by omega) (by omega) (by omega)]; exact h.1.2.1, y3, by rw [hf2 5 (by omega) (by omega) (by omega) (by omega)]; exact h.1.2.2.2⟩, hR0⟩
    · rw [b4 (1 + 10 + i) (by omega) (by omega) (by omega), show m1 (1 + 10 + i) 0 = _ from x5 i hi 0 (by omega), show m1 (1 + 10 + i) 1 = _ from x5 i hi 1 (by omega), show m1 (1 + 10 + i) 2 = _ from x5 i hi 2 (by omega)]
      exact part_rgV (a1.ok x1 i hi)
    · rw [b4 (1 + 10 + i) (by omega) (by omega) (by omega), y4 i hi j hj]
      exact (x5 i hi j hj).symm
  · exact absurd ⟨x1, x2⟩ y1
  · exact absurd ⟨y1, y2⟩ x1
  · exact ⟨nc, np, nt, ⟨SR.mk hs hp (h.1.1.pp.cg (fun q q1 q2 => by rw [b4 q (by omega) (by omega) (by omega)]; exact x2 q (by omega) (by omega)) (fun j _ => by rw [y3, a5 97 (by omega) (by omega) (by omega)])) ht, by rw [hf2 1 (by omega) (by omega) (by omega) (by omega)]; exact h.1.2.1, by rw [y2, e94]; exact h.1.2.2.1, by rw [hf2 5 (by omega) (by omega) (by omega) (by omega)]; exact h.1.2.2.2⟩, hR0⟩
/-! ===== images ===== -/
theorem Ps.mv {mu m : Mu} {b c : Nat} {S S2 : Vc} (h : Ps mu c S) (hq : ∀ j, j < 3 → m (b + 1) j = mu (c + 1) j) (hS : ∀ j, j < 3 → S2 j = S j) : Ps m b S2 :=
  ⟨by rw [hq 0 (by omega), hq 1 (by omega), hq 2 (by omega)]; exact h.1, fun j hj => by rw [hq j hj, hS j hj]; exact h.2 j hj⟩
theorem Pc.mv {mu m : Mu} {b c z : Nat} {C C2 : Vc} (h : Pc mu c C z) (h1 : m (b + 2) 2 = nI z) (h2 : m (b + 2) 1 = nI 5) (hq : ∀ i j, i < z → j < 5 → m (b + 4 + i) j = mu (c + 4 + i) j) (hS : ∀ j, j < 20 → C2 j = C j) : Pc m b C2 z :=
  ⟨⟨h.1.1, h2, h1, fun i hi => by rw [hq i 0 hi (by omega), hq i 1 hi (by omega), hq i 2 hi (by omega), hq i 3 hi (by omega), hq i 4 hi (by omega)]; exact h.1.2.2.2 i hi⟩, fun i hi j hj => by rw [hq i j hi hj, hS _ (by have := h.1.1; omega)]; exact h.2 i hi j hj⟩
theorem Pp.mv {mu m : Mu} {b c z : Nat} {C C2 : Vc} (h : Pp mu c C z) (h1 : m (b + 8) 2 = nI z) (h2 : m (b + 8) 1 = nI 3) (hq : ∀ i j, i < z → j < 3 → m (b + 10 + i) j = mu (c + 10 + i) j) (hS : ∀ j, j < 18 → C2 j = C j) : Pp m b C2 z :=
  ⟨⟨h.1.1, h2, h1, fun i hi => by rw [hq i 0 hi (by omega), hq i 1 hi (by omega), hq i 2 hi (by omega)]; exact h.1.2.2.2 i hi⟩, fun i hi j hj => by rw [hq i j hi hj, hS _ (by have := h.1.1; omega)]; exact h.2 i hi j hj⟩
theorem Pt.mv {mu m : Mu} {b c z : Nat} {C C2 : Vc} (h : Pt mu c C z) (h1 : m (b + 16) 2 = nI z) (h2 : m (b + 16) 1 = nI 4) (hq : ∀ i j, i < z → j < 4 → m (b + 18 + i) j = mu (c + 18 + i) j) (hS : ∀ j, j < 32 → C2 j = C j) : Pt m b C2 z :=
  ⟨⟨h.1.1, h2, h1, fun i hi => by rw [hq i 0 hi (by omega), hq i 1 hi (by omega), hq i 2 hi (by omega), hq i 3 hi (by omega)]; exact h.1.2.2.2 i hi⟩, fun i hi => by have := h.1.1; rw [hq i 0 hi (by omega), hq i 1 hi (by omega), hq i 2 hi (by omega), hq i 3 hi (by omega), hS _ (by omega), hS _ (by omega), hS _ (by omega), hS _ (by omega)]; exact h.2 i hi⟩
set_option maxRecDepth 100000 in
theorem q_image (mu : Mu) (h : Rel mu) : Con yX8_image cX8_image 1 (some .int) 3 [vC 0] mu (fun r m1 => Con yX9_image cX9_image 2 (some .int) 1 [vC 94] m1 (fun r2 m2 => r2 = r ∧ Rel m2)) := by
  obtain ⟨nc, np, nt, h⟩ := h
  obtain ⟨⟨⟨k1, k2, k3⟩, -, -, -⟩, -⟩ := id h.2.1
  have hc := h.1.1.pc
  have hp := h.1.1.pp
  have ht := h.1.1.pt
  refine con_wk (c_X8_image mu nc np nt hc.1.1 hp.1.1 ht.1.1 k1 k2 k3 hc.1.2.1 hp.1.2.1 ht.1.2.1 hc.1.2.2.1 hp.1.2.2.1 ht.1.2.2.1) (fun r m1 h1 => ?_)
  refine con_wk (c_X9_image m1) (fun r2 m2 h2 => ?_)
  obtain ⟨e1, m, ⟨s1, s2, ⟨s3, s4, s5⟩, ⟨s6, s7, s8⟩, ⟨s9, s10, s11⟩⟩, rfl⟩ := h1
  obtain ⟨e2, i1, i2, i3, i4, i5, i6, i7, i8, i9, i10⟩ := h2
  have hm : ∀ q, q ≠ 94 → q ≠ 108 → q ≠ 0 → m2 q = m q := fun q q1 q2 q3 => (i10 q q1 q2).trans (upF_k q3)
  have hf : ∀ q, ((0 < q ∧ q < 27) ∨ (53 ≤ q ∧ q < 94) ∨ (94 < q ∧ q < 108) ∨ 108 < q) → m2 q = mu q := fun q hq => (hm q (by omega) (by omega) (by omega)).trans (s1 q (by omega))
  have g : ∀ q, (q < 27 ∨ 53 ≤ q) → q ≠ 0 → upF m 0 2 1 q = mu q := fun q hq q0 => (upF_k q0).trans (s1 q hq)
  have e94 : ∀ j, j ≠ 36 → m2 94 j = mu 94 j := fun j hj => by rw [i9 j hj, g 94 (by omega) (by omega)]
  refine ⟨by rw [e2, e1], nc, np, nt, h.1.cg (fun q q1 q2 => hf q (by omega)) (fun q q1 q2 => hf q (by omega)) (fun j hj => e94 j (by omega)), ⟨⟨⟨?_, ?_, ?_⟩, ⟨nc, hc.1.1, ?_⟩, ⟨np, hp.1.1, ?_⟩, ⟨nt, ht.1.1, ?_⟩⟩, Or.inr ⟨?_, i8, nc, np, nt, SR.mk ?_ ?_ ?_ ?_, ?_, ?_, ?_⟩⟩, h.2.2.1.cg (by rw [hf 70 (by omega)]) (hf 71 (by omega)) (by rw [hf 72 (by omega)]) (by rw [hf 78 (by omega)]) (hf 99 (by omega)) (e94 8 (by omega)), h.2.2.2.1.cg (fun q hq => hf q (by omega)), h.2.2.2.2.cg (fun j hj => e94 j (by omega))⟩
  · rw [hm 29 (by omega) (by omega) (by omega)]; exact s4
  · rw [hm 35 (by omega) (by omega) (by omega)]; exact s7
  · rw [hm 43 (by omega) (by omega) (by omega)]; exact s10
  · rw [hm 29 (by omega) (by omega) (by omega)]; exact s3
  · rw [hm 35 (by omega) (by omega) (by omega)]; exact s6
  · rw [hm 43 (by omega) (by omega) (by omega)]; exact s9
  · rw [i10 0 (by omega) (by omega)]; exact upF_s
  · exact h.1.1.ps.mv (fun j hj => by rw [hm (27 + 1) (by omega) (by omega) (by omega)]; exact s2 j hj) (fun j hj => by rw [i1 j hj, g 95 (by omega) (by omega)])
  · exact hc.mv (by rw [hm (27 + 2) (by omega) (by omega) (by omega)]; exact s3) (by rw [hm (27 + 2) (by omega) (by omega) (by omega)]; exact s4) (fun i j hi hj => by rw [hm (27 + 4 + i) (by have := hc.1.1; omega) (by have := hc.1.1; omega) (by omega)]; exact s5 i j hi hj) (fun j hj => by show m2 108 (3 + j) = _; rw [i2 j hj, g 96 (by omega) (by omega)])
  · exact hp.mv (by rw [hm (27 + 8) (by omega) (by omega) (by omega)]; exact s6) (by rw [hm (27 + 8) (by omega) (by omega) (by omega)]; exact s7) (fun i j hi hj => by rw [hm (27 + 10 + i) (by have := hp.1.1; omega) (by have := hp.1.1; omega) (by omega)]; exact s8 i j hi hj) (fun j hj => by show m2 108 (23 + j) = _; rw [i3 j hj, g 97 (by omega) (by omega)])
  · exact ht.mv (by rw [hm (27 + 16) (by omega) (by omega) (by omega)]; exact s9) (by rw [hm (27 + 16) (by omega) (by omega) (by omega)]; exact s10) (fun i j hi hj => by rw [hm (27 + 18 + i) (by have := ht.1.1; omega) (by have := ht.1.1; omega) (by omega)]; exact s11 i j hi hj) (fun j hj => by show m2 108 (41 + j) = _; rw [i4 j hj, g 98 (by omega) (by omega)])
  · rw [i5, g 94 (by omega) (by omega)]; exact h.1.2.1
  · rw [i6, g 94 (by omega) (by omega)]; exact h.1.2.2.1
  · rw [i7, g 94 (by omega) (by omega)]; exact h.1.2.2.2
set_option maxRecDepth 100000 in
theorem q_restore (mu : Mu) (h : Rel mu) : Con yX8_restore cX8_restore 1 (some .int) 3 [vC 0] mu (fun r m1 => Con yX9_restore cX9_restore 2 (some .int) 1 [vC 94] m1 (fun r2 m2 => r2 = r ∧ Rel m2)) := by
  obtain ⟨nc, np, nt, h⟩ := h
  obtain ⟨⟨⟨k1, k2, k3⟩, ⟨z1, hz1, ez1⟩, ⟨z2, hz2, ez2⟩, ⟨z3, hz3, ez3⟩⟩, hK⟩ := id h.2.1
  refine con_wk (c_X8_restore mu z1 z2 z3 hz1 hz2 hz3 h.1.1.pc.1.2.1 h.1.1.pp.1.2.1 h.1.1.pt.1.2.1 k1 k2 k3 ez1 ez2 ez3) (fun r m1 h1 => ?_)
  refine con_wk (c_X9_restore m1) (fun r2 m2 h2 => ?_)
  have e94 : m1 94 = mu 94 := by
    rcases h1 with ⟨-, -, rfl⟩ | ⟨-, -, s1, -⟩
    · rfl
    · exact s1 94 (by omega)
  rw [e94] at h2
  rcases hK with ⟨w1, w2⟩ | ⟨w1, w2, kc, kp, kt, w3, w4, w5, w6⟩
  · rcases h1 with ⟨-, e1, rfl⟩ | ⟨x, -⟩
    · rcases h2 with ⟨-, e4, rfl⟩ | ⟨y, -⟩
      · exact ⟨by rw [e4, e1], .of h⟩
      · exact absurd w2 y
    · exact absurd w1 x
  · rcases h1 with ⟨x, -⟩ | ⟨-, e1, s1, s2, ⟨s3, s4, s5⟩, ⟨s6, s7, s8⟩, ⟨s9, s10, s11⟩⟩
    · rw [w1] at x
      exact absurd x (by decide)
    · rcases h2 with ⟨y, -⟩ | ⟨-, e4, i1, i2, i3, i4, i5, i6, i7, i8, i9⟩
      · rw [w2] at y
        exact absurd y (by decide)
      · have hc := w3.pc
        have hp := w3.pp
        have ht := w3.pt
        have f1 : z1 = kc := nI_in1 ez1 hc.1.2.2.1 (by omega) (by have := hc.1.1; omega)
        have f2 : z2 = kp := nI_in1 ez2 hp.1.2.2.1 (by omega) (by have := hp.1.1; omega)
        have f3 : z3 = kt := nI_in1 ez3 ht.1.2.2.1 (by omega) (by have := ht.1.1; omega)
        subst f1
        subst f2
        subst f3
        have e108 : m1 108 = mu 108 := s1 108 (by omega)
        rw [e108] at i1 i2 i3 i4 i5 i6 i7
        have hm : ∀ q, q < 94 → m2 q = m1 q := fun q hq => i9 q (by omega)
        have hf : ∀ q, (q < 1 ∨ (27 ≤ q ∧ q < 94) ∨ 98 < q) → m2 q = mu q := fun q hq => (i9 q (by omega)).trans (s1 q (by omega))
        have hj : ∀ j, j ≠ 1 → j ≠ 3 → j ≠ 5 → m2 94 j = mu 94 j := fun j j1 j2 j3 => by rw [i8 j j1 j2 j3, e94]
        refine ⟨by rw [e4, e1], z1, z2, z3, ⟨SR.mk ?_ ?_ ?_ ?_, i5.trans w4, i6.trans w5, i7.trans w6⟩, h.r0.cg (fun q hq => hf q (by omega)) hj⟩
        · exact w3.ps.mv (fun j hj => by rw [hm (1 + 1) (by omega)]; exact s2 j hj) (fun j hj => i1 j hj)
        · exact hc.mv (by rw [hm (1 + 2) (by omega)]; exact s3) (by rw [hm (1 + 2) (by omega)]; exact s4) (fun i j hi hj => by rw [hm (1 + 4 + i) (by omega)]; exact s5 i j hi hj) (fun j hj => i2 j hj)
        · exact hp.mv (by rw [hm (1 + 8) (by omega)]; exact s6) (by rw [hm (1 + 8) (by omega)]; exact s7) (fun i j hi hj => by rw [hm (1 + 10 + i) (by omega)]; exact s8 i j hi hj) (fun j hj => i3 j hj)
        · exact ht.mv (by rw [hm (1 + 16) (by omega)]; exact s9) (by rw [hm (1 + 16) (by omega)]; exact s10) (fun i j hi hj => by rw [hm (1 + 18 + i) (by omega)]; exact s11 i j hi hj) (fun j hj => i4 j hj)
