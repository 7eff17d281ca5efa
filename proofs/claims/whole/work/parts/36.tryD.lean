theorem conV_wk {y : MethodName} {yc : ByteArray} {n d : Nat} {As : List AV} {mu : Mu} {R S : Mu → Prop} (h : ConV y yc n d As mu R) (hw : ∀ m, R m → S m) : ConV y yc n d As mu S := by
  intro l D h0 cA sz t0 t1
  intro p e a1 a2 a3 s m args below f1 f2 f3 f4
  obtain ⟨k, oc, b1, b2, b3, b4, b5⟩ := h l D h0 cA sz t0 t1 p e a1 a2 a3 s m args below f1 f2 f3 f4
  exact ⟨k, oc, b1, b2, b3, ⟨⟨b4.1.choose, b4.1.choose_spec.1, hw _ b4.1.choose_spec.2.1, b4.1.choose_spec.2.2⟩, b4.2⟩, b5⟩
/-! ===== Try.goOn and what stands on it ===== -/
def COK (mu : Mu) (fu fv : Int32) (nc : Nat) : Prop := TOK mu 3 4 5 ∧ nc ≤ 4 ∧ mu 3 2 = nI nc ∧ TOK mu 9 6 3 ∧ (mu 53 4 = -1 ∨ ∃ lc, lc < nc ∧ mu 53 4 = nI lc) ∧ EOK (rdE mu) (hU mu fu fv) (hV mu fu fv)
def TS (mu0 : Mu) (fu fv : Int32) (nc n : Nat) (m : Mu) : Prop := (∀ q, q ≠ 53 → q ≠ 54 → m q = mu0 q) ∧ (∀ j, 1 < j → j < 6 → m 53 j = mu0 53 j) ∧ Traj (rdE mu0) (cupC mu0) nc (hU mu0 fu fv) (hV mu0 fu fv) n (rdT m) ∧ (m 53 14 = -1 → ∀ j, 0 < j → j < 5 → m 54 j = hst mu0 fu fv n j)
theorem traj_frz {E : Vc} {C : Nat → Vc} {nc : Nat} {U V : Vc} {s : Vc} {n : Nat} (h : Traj E C nc U V n s) (h9 : ¬ s 9 = -1) : ∀ k, n ≤ k → Traj E C nc U V k s := by
  intro k hk
  induction k with
  | zero =>
    have e : n = 0 := by omega
    subst e
    exact h
  | succ k ih =>
    by_cases e : n = k + 1
    · subst e
      exact h
    · exact ⟨s, ih (by omega), Or.inr ⟨h9, fun _ _ => rfl⟩⟩
theorem TS.frz {mu0 m : Mu} {fu fv : Int32} {nc n k : Nat} (h : TS mu0 fu fv nc n m) (hc : ¬ m 53 14 = -1) (hk : n ≤ k) : TS mu0 fu fv nc k m := ⟨h.1, h.2.1, traj_frz h.2.2.1 hc k hk, fun e => absurd e hc⟩
theorem hst_cg {m mu : Mu} {fu fv : Int32} (hO : TOK mu 9 6 3) (h : ∀ q, 9 ≤ q → q < 17 → m q = mu q) : hst m fu fv = hst mu fu fv ∧ hU m fu fv = hU mu fu fv ∧ hV m fu fv = hV mu fu fv := by
  have e9 : m 9 = mu 9 := h 9 (by decide) (by decide)
  have et : ∀ row col, tget m 9 row col = tget mu 9 row col := fun row col => tget_cg tab9 hO h
  have em : hmid m = hmid mu := by
    funext f
    unfold hmid
    rw [e9, et]
  have eU : hgoU m = hgoU mu := by
    funext f
    unfold hgoU
    rw [em, et]
  have eV : hgoV m = hgoV mu := by
    funext f
    unfold hgoV
    rw [em, et]
  have eF : hgoF m = hgoF mu := by
    funext a f j
    unfold hgoF
    rw [em, eU, eV]
  have eh : ∀ n, hst m fu fv n = hst mu fu fv n := by
    intro n
    induction n with
    | zero => rfl
    | succ n ih =>
      show hgoF m 0 (hst m fu fv n) = hgoF mu 0 (hst mu fu fv n)
      rw [ih, eF]
  refine ⟨funext eh, ?_, ?_⟩
  · funext n
    show hgoU m (hst m fu fv n) = hgoU mu (hst mu fu fv n)
    rw [eU, eh]
  · funext n
    show hgoV m (hst m fu fv n) = hgoV mu (hst mu fu fv n)
    rw [eV, eh]
theorem step_C {E : Vc} {C D : Nat → Vc} {nc n : Nat} {U V s t : Vc} (hC : ∀ i, i < nc → C i = D i) (hlc : E 4 = -1 ∨ ∃ lc, lc < nc ∧ E 4 = nI lc) (hnc : nc ≤ 4) (h : Step E C nc U V n s t) : Step E D nc U V n s t := by
  obtain ⟨f, g, k, h1, h2, h3, h4, h5⟩ := h
  have eS : sSide E C s = sSide E D s := by
    unfold sSide
    by_cases e : E 4 = -1 ∨ s 12 < E 5 ∨ ¬ s 8 = 0
    · rw [if_pos e, if_pos e]
    · rw [if_neg e, if_neg e]
      rcases hlc with z | ⟨lc, hl, z⟩
      · exact absurd (Or.inl z) e
      · rw [z, nI_clamp (by omega), hC lc hl]
  refine ⟨f, g, k, h1, by rw [← eS]; exact h2, h3, ?_, h5⟩
  rw [← metC_cg hC]
  rcases h4 with h | ⟨a, i, hi, b, c⟩
  · exact Or.inl h
  · exact Or.inr ⟨a, i, hi, b, by rw [← hC i hi]; exact c⟩
theorem side_C {E : Vc} {C D : Nat → Vc} {nc : Nat} {s : Vc} (hC : ∀ i, i < nc → C i = D i) (hlc : E 4 = -1 ∨ ∃ lc, lc < nc ∧ E 4 = nI lc) (hnc : nc ≤ 4) : sSide E C s = sSide E D s := by
  unfold sSide
  by_cases e : E 4 = -1 ∨ s 12 < E 5 ∨ ¬ s 8 = 0
  · rw [if_pos e, if_pos e]
  · rw [if_neg e, if_neg e]
    rcases hlc with z | ⟨lc, hl, z⟩
    · exact absurd (Or.inl z) e
    · rw [z, nI_clamp (by omega), hC lc hl]
/-- one goStep out of a state that is not caught -/
theorem TS.step {mu0 m : Mu} {fu fv : Int32} {nc n : Nat} (hC : COK mu0 fu fv nc) (hn : n < 100) (h : TS mu0 fu fv nc n m) (h9 : m 53 14 = -1) : ConV yX7_goStep cX7_goStep 3 3 [vC 53] m (fun m2 => TS mu0 fu fv nc (n + 1) m2 ∧ m2 53 13 = nI (n + 1)) := by
  obtain ⟨hO3, hz, ez, hO9, hlc, hE⟩ := hC
  obtain ⟨a1, a2, a3, a4⟩ := h
  have t3 : m 3 = mu0 3 := a1 3 (by decide) (by decide)
  have eE : rdE m = rdE mu0 := by
    funext j
    unfold rdE
    rw [a2 2 (by decide) (by decide), a2 3 (by decide) (by decide), a2 4 (by decide) (by decide), a2 5 (by decide) (by decide), a1 2 (by decide) (by decide)]
  obtain ⟨eh, eU, eV⟩ := hst_cg (m := m) (mu := mu0) (fu := fu) (fv := fv) hO9 (fun q h1 h2 => a1 q (by omega) (by omega))
  have eC : ∀ i, i < nc → cupC m i = cupC mu0 i := fun i hi => by
    funext j
    show m (5 + i) j = mu0 (5 + i) j
    rw [a1 (5 + i) (by omega) (by omega)]
  have hI := traj_inv hE n (by omega) _ a3
  obtain ⟨cd, ecd, c1, c60⟩ := hE.1
  obtain ⟨S, eS, hS, -⟩ := sSq_nI (p_rng (C := cupC mu0) hE hI) (q_rng (by omega) hE hI)
  have hlm : m 53 4 = -1 ∨ ∃ lc, lc < nc ∧ m 53 4 = nI lc := by rw [a2 4 (by decide) (by decide)]; exact hlc
  have hs12 : m 53 13 = nI n := traj_steps n _ a3 h9
  have key := c_X7_goStep m nc n fu fv (TOK.cg t3 hO3) hz (by rw [t3]; exact ez) (TOK.cg (a1 9 (by decide) (by decide)) hO9) (fun j h1 h2 => by rw [eh]; exact a4 h9 j h1 h2) hlm cd S (by rw [a2 2 (by decide) (by decide)]; exact ecd) c1 c60 hS (by
    rw [eU, eV, eE, side_C (E := rdE mu0) eC hlc hz]
    have e1 : m 2 1 = mu0 2 1 := by rw [a1 2 (by decide) (by decide)]
    rw [e1]
    exact eS)
  intro l D h cA sz t0 t1
  refine conV_wk key (fun m2 hm => ?_) l D h cA sz t0 t1
  obtain ⟨b1, b2, b3, b4⟩ := hm
  rw [eh] at b3
  rw [eE, eU, eV] at b4
  have b5 := step_C (E := rdE mu0) eC hlc hz b4
  refine ⟨⟨fun q q1 q2 => by rw [b1 q q1 q2, a1 q q1 q2], fun j j1 j2 => by rw [b2 j j1 j2, a2 j j1 j2], ⟨rdT m, a3, Or.inl ⟨h9, b5⟩⟩, fun _ => b3⟩, ?_⟩
  obtain ⟨f, g, k, -, -, -, -, -, -, -, -, -, -, -, -, -, -, t12⟩ := b5
  have : m2 53 13 = m 53 13 + 1 := t12
  rw [this, hs12, nI_1]
theorem TS.done {mu0 m : Mu} {fu fv x : Int32} {nc i k : Nat} (hi : i ≤ k) (hk : k ≤ 100) (hx : m 53 14 = -1 → x = nI i) (hT : TS mu0 fu fv nc i m) (c7 : nI k ≤ x) : TS mu0 fu fv nc k m := by
  by_cases e : m 53 14 = -1
  · rw [hx e] at c7
    have hki := nI_dec2 c7 (by omega) (by omega)
    have e2 : i = k := by omega
    rw [← e2]
    exact hT
  · exact hT.frz e hi
set_option maxHeartbeats 4000000 in
set_option maxRecDepth 100000 in
theorem c_X7_goOn (mu0 : Mu) (fu fv : Int32) (nc : Nat) (hC : COK mu0 fu fv nc) (mu : Mu) (n k : Nat) (hn : n ≤ k) (hk : k ≤ 100) (hT : TS mu0 fu fv nc n mu) : ConV yX7_goOn cX7_goOn 3 4 [vC 53, vI (nI k)] mu (fun mu2 => TS mu0 fu fv nc k mu2) := by
  refine conV_of (own := RX7) (by decide) rfl (Nat.le_of_ble_eq_true rfl) (fun X g hq => ?_)
  show WA X g RX7 3 cX7_goOn 0 [(0, vC 53), (1, vI (nI k))] [] mu
  refine o_aload_n dX7_goOn_0 rfl rfl (by rfl) ?_
  refine o_getI cl_X7_69 dX7_goOn_1 rfl (by decide) (by rfl) (by rfl) ?_
  refine o_istore_n (L' := [(0, vC 53), (1, vI (nI k)), (2, vI (mu 53 13))]) dX7_goOn_4 rfl rfl (by decide) (by rfl) (by rfl) ?_
  have LP5 : ∀ (nLP5 : Nat) (i : Nat) (x : Int32) (m : Mu) , (i ≤ k) → (m 53 14 = -1 → x = nI i) → (TS mu0 fu fv nc i m) → (k < i + nLP5) → WA X g RX7 3 cX7_goOn 5 [(0, vC 53), (1, vI (nI k)), (2, vI x)] [] m := by
    intro nLP5
    induction nLP5 with
    | zero =>
      intro i x m hi hx hT hm
      exact absurd hm (by omega)
    | succ nLP5 ihLP5 =>
      intro i x m hi hx hT hm
      refine o_iload_n dX7_goOn_5 rfl rfl (by rfl) ?_
      refine o_iload_n dX7_goOn_6 rfl rfl (by rfl) ?_
      refine o_icmp_ge (tgt := 28) dX7_goOn_7 (by decide) rfl (fun (c7 : (nI k) ≤ x) => ?_) (fun (c7 : ¬ (nI k) ≤ x) => ?_)
      · skip
        exact o_vret hq dX7_goOn_28 (TS.done hi hk hx hT c7)
      · skip
        refine o_aload_n dX7_goOn_10 rfl rfl (by rfl) ?_
        refine o_getI cl_X7_72 dX7_goOn_11 rfl (by decide) (by rfl) (by rfl) ?_
        refine o_iconst (v := (-1)) dX7_goOn_14 rfl (by decide) ?_
        refine o_icmp_ne (tgt := 28) dX7_goOn_15 (by decide) rfl (fun (c15 : ¬ (m 53 14) = ((-1))) => ?_) (fun (c15 : (m 53 14) = ((-1))) => ?_)
        · skip
          exact o_vret hq dX7_goOn_28 (hT.frz c15 hi)
        · skip
          have hik : i < k := Nat.lt_of_le_of_ne hi (fun e => c7 (by rw [hx c15, e]; exact nI_le (Nat.le_refl _) (by omega)))
          refine o_aload_n dX7_goOn_18 rfl rfl (by rfl) ?_
          refine o_callVV cs_X7_goStep cv_X7_94 (TS.step hC (by omega) hT c15) hq.2.2.2 (Nat.le_of_ble_eq_true rfl) dX7_goOn_19 rfl (by decide) (by rfl) (by rfl) (by rfl) rfl rfl (Nat.le_of_ble_eq_true rfl) (fun m19 h19 => ?_)
          obtain ⟨x2, ex2⟩ : ∃ y : Int32, y = x + 1 := ⟨_, rfl⟩
          refine o_iinc (v := x2) (L' := [(0, vC 53), (1, vI (nI k)), (2, vI x2)]) dX7_goOn_22 rfl (by rfl) (by rw [ex2]; rfl) (by decide) (by rfl) (by rfl) ?_
          refine o_goto (tgt := 5) dX7_goOn_25 (by decide) ?_
          exact ihLP5 (i + 1) _ _ (by omega) (fun _ => by rw [ex2, hx c15, nI_1]) h19.1 (by omega)
  exact LP5 (k + 1) n _ _ hn (fun h => traj_steps n _ hT.2.2.1 h) hT (by omega)
