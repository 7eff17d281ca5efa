/-! ===== the reference: a try ===== -/
abbrev TA : Type := Int32 × Int32 × Int32 × Int32 × Int32 × Int32
/-- the class's numbers for it: cord, u, v, whether cups are met, late cup, late from -/
noncomputable abbrev tvA (mu : Mu) (a : TA) (n j : Nat) : Int32 := tv mu a.1 a.2.1 a.2.2.1 a.2.2.2.1 a.2.2.2.2.1 a.2.2.2.2.2 n j
abbrev trA (mu : Mu) (a : TA) (n : Nat) (s : Vc) : Prop := TrM mu a.1 a.2.1 a.2.2.1 a.2.2.2.1 a.2.2.2.2.1 a.2.2.2.2.2 n s
/-- what a try wants to be -/
def TOKA (mu : Mu) (a : TA) (nc np : Nat) : Prop := SOK mu 1 ∧ RX mu a.1 a.2.1 a.2.2.1 nc np ∧ rg a.1 10 60 ∧ rg a.2.1 (-10) 10 ∧ rg a.2.2.1 (-10) 10 ∧ ((a.2.2.2.1 = 1 ∧ mu 94 17 = 0) ∨ (a.2.2.2.1 = 0 ∧ ¬ mu 94 17 = 0)) ∧ ((a.2.2.2.2.1 = -1 ∧ mu 94 15 = -4) ∨ ∃ i, i < nc ∧ a.2.2.2.2.1 = nI i ∧ mu 94 15 = nI i) ∧ (a.2.2.2.2.1 = -1 ∨ mu 94 16 = a.2.2.2.2.2)
theorem TOKA.lc {mu : Mu} {a : TA} {nc np : Nat} (h : TOKA mu a nc np) : a.2.2.2.2.1 = -1 ∨ ∃ i, i < nc ∧ a.2.2.2.2.1 = nI i := h.2.2.2.2.2.2.1.elim (fun h => Or.inl h.1) (fun ⟨i, h1, h2, _⟩ => Or.inr ⟨i, h1, h2⟩)
theorem TOKA.tv {mu : Mu} {a : TA} {nc np n : Nat} {s : Vc} (h : TOKA mu a nc np) (hs : trA mu a n s) {j : Nat} (hj : j < 15) : tvA mu a n j = s j := TrM.tv hs h.2.1.2.1.1 h.2.1.2.1.2.2.1 h.lc hj
theorem TOKA.eok {mu : Mu} {a : TA} {nc np : Nat} (h : TOKA mu a nc np) : EOK (mkE mu a.1 a.2.2.2.1 a.2.2.2.2.1 a.2.2.2.2.2) (hU mu a.2.1 a.2.2.1) (hV mu a.2.1 a.2.2.1) := by
  obtain ⟨hS, hX, hc, hu, hv, -⟩ := h
  refine ⟨?_, ?_, fun n => hU_rg hS hu n, fun n => hV_rg hS hv n⟩
  · obtain ⟨c, e, h1, h2⟩ := rg_nI (a := 10) (b := 60) hc
    exact ⟨c, e, by omega, h2⟩
  · obtain ⟨h1, h2⟩ := hS.1.2.1
    exact ⟨by have : (1 : Int) ≤ (mu 2 1).toInt := h1; show 0 ≤ (mu 2 1).toInt; omega, h2⟩
def STA (m : Mu) (s : Vc) : Prop := (s 0 = m 94 22 ∧ s 1 = m 94 23 ∧ s 2 = m 94 24 ∧ s 3 = m 94 25 ∧ s 4 = m 94 26 ∧ s 5 = m 94 27 ∧ s 6 = m 94 28 ∧ s 7 = m 94 29 ∧ s 8 = m 94 30 ∧ s 10 = m 94 20 ∧ s 11 = m 94 21) ∧ ((s 9 = -1 ∧ m 94 18 = -4 ∧ m 94 19 = -4) ∨ ∃ i, i < 4 ∧ s 9 = nI i ∧ m 94 18 = nI i ∧ m 94 19 = s 12 - 1)
/-- behind n steps -/
def TRQ (mu m : Mu) (a : TA) (e : Int32) (n : Nat) : Prop := ((∀ q, q ≠ 94 → q ≠ 101 → q ≠ 102 → q ≠ 103 → m q = mu q) ∧ ∀ j, (j < 18 ∨ 30 < j) → m 94 j = mu 94 j) ∧ (∃ s, trA mu a n s ∧ STA m s) ∧ ((e = 0 ∧ m 94 18 = -4) ∨ (e = 1 ∧ ¬ m 94 18 = -4)) ∧ (∀ k, n ≤ k → k < 100 → m 102 k = hU mu a.2.1 a.2.2.1 k) ∧ (∀ k, k < 100 → m 103 k = hV mu a.2.1 a.2.2.1 k) ∧ ∀ k, k < n → tvA mu a k 9 = -1 → m 102 k = tvA mu a (k + 1) 13 ∧ m 103 k = tvA mu a (k + 1) 14
def RWS (mu m : Mu) (a : TA) (n : Nat) : Prop := ∀ k, k < n → ∀ j, j < 9 → m 101 (9 * k + j) = tvA mu a (k + 1) j
theorem nI_nem4 {i : Nat} (h : i < 2 ^ 31) : ¬ nI i = -4 := fun e => by
  have := (i_eq _ _).mp e
  rw [nI_toInt h] at this
  have e1 : (-4 : Int32).toInt = -4 := rfl
  omega
theorem STA.caught {m : Mu} {s : Vc} (h : STA m s) : (s 9 = -1 ↔ m 94 18 = -4) := by
  rcases h.2 with ⟨h1, h2, -⟩ | ⟨i, h0, h1, h2, -⟩
  · exact ⟨fun _ => h2, fun _ => h1⟩
  · refine ⟨fun e => absurd (h1.symm.trans e) (nI_nem1 (by omega)), fun e => absurd (h2.symm.trans e) (nI_nem4 (by omega))⟩
theorem TRQ.rest {mu m : Mu} {a : TA} {e : Int32} {n nc np : Nat} (hA : TOKA mu a nc np) (h : TRQ mu m a e n) (he : ¬ e = 0) : TRQ mu m a e (n + 1) := by
  obtain ⟨h1, ⟨s, h2, h3⟩, h4, h5, h6, h7⟩ := h
  have hc : ¬ m 94 18 = -4 := h4.elim (fun q => absurd q.1 he) (fun q => q.2)
  have h9 : ¬ s 9 = -1 := fun q => hc (h3.caught.mp q)
  refine ⟨h1, ⟨s, ⟨s, h2, Or.inr ⟨h9, fun _ _ => rfl⟩⟩, h3⟩, h4, fun k a b => h5 k (by omega) b, h6, fun k hk e9 => ?_⟩
  by_cases q : k = n
  · subst q
    rw [hA.tv h2 (by decide)] at e9
    exact absurd e9 h9
  · exact h7 k (by omega) e9
theorem RWS.go {mu m m2 : Mu} {a : TA} {e : Int32} {n nc np : Nat} (hA : TOKA mu a nc np) (h : RWS mu m a n) (hT : TRQ mu m a e (n + 1)) (hP : PT m m2 101 (9 * n) 9 (fun j => if j = 0 then m 94 22 else if j = 1 then m 94 23 else if j = 2 then m 94 24 else if j = 3 then m 94 25 else if j = 4 then m 94 26 else if j = 5 then m 94 27 else if j = 6 then m 94 28 else if j = 7 then m 94 29 else m 94 30)) : RWS mu m2 a (n + 1) ∧ TRQ mu m2 a e (n + 1) := by
  obtain ⟨p1, p2, p3⟩ := hP
  obtain ⟨h1, ⟨s, h2, h3⟩, h4, h5, h6, h7⟩ := hT
  have e94 : m2 94 = m 94 := p1 94 (by decide)
  have e102 : m2 102 = m 102 := p1 102 (by decide)
  have e103 : m2 103 = m 103 := p1 103 (by decide)
  refine ⟨fun k hk j hj => ?_, ⟨fun q a b c d => (p1 q b).trans (h1.1 q a b c d), fun j hj => by rw [e94]; exact h1.2 j hj⟩, ⟨s, h2, by unfold STA at *; rw [e94]; exact h3⟩, by rw [e94]; exact h4, by rw [e102]; exact h5, by rw [e103]; exact h6, by rw [e102, e103]; exact h7⟩
  by_cases q : k = n
  · subst q
    rw [p3 j hj, hA.tv h2 (by omega)]
    obtain ⟨⟨a0, a1, a2, a3, a4, a5, a6, a7, a8, -⟩, -⟩ := h3
    match j, hj with
    | 0, _ => exact a0.symm
    | 1, _ => exact a1.symm
    | 2, _ => exact a2.symm
    | 3, _ => exact a3.symm
    | 4, _ => exact a4.symm
    | 5, _ => exact a5.symm
    | 6, _ => exact a6.symm
    | 7, _ => exact a7.symm
    | 8, _ => exact a8.symm
    | j + 9, hj => omega
  · rw [p2 (9 * k + j) (by omega)]
    exact h k (by omega) j hj
/-- the late eye has looked -/
def JS (mu m m2 : Mu) (a : TA) (s : Vc) (n : Nat) : Prop := (∀ q, q ≠ 102 → m2 q = m q) ∧ (∀ k, k ≠ n → m2 102 k = m 102 k) ∧ m2 102 n = sSide (mkE mu a.1 a.2.2.2.1 a.2.2.2.2.1 a.2.2.2.2.2) (cupD mu) s + hU mu a.2.1 a.2.2.1 n
def wW (m : Mu) (n : Nat) : Mu := upF (upF (upF (upF (upF m 94 28 (m 94 28 + m 102 n)) 94 29 (m 94 29 + m 103 n)) 94 25 (m 94 25 - m 95 1)) 94 22 (m 94 22 + m 94 24)) 94 23 (m 94 23 + (m 94 25 - m 95 1))
theorem wW_k {m : Mu} {n q : Nat} (h : q ≠ 94) : wW m n q = m q := by unfold wW; simp only [upF_k h]
theorem wW_i {m : Mu} {n j : Nat} (h1 : j ≠ 22) (h2 : j ≠ 23) (h3 : j ≠ 25) (h4 : j ≠ 28) (h5 : j ≠ 29) : wW m n 94 j = m 94 j := by unfold wW; simp only [upF_i h1, upF_i h2, upF_i h3, upF_i h4, upF_i h5]
theorem TRQ.sq {mu m m2 : Mu} {a : TA} {e : Int32} {n nc np : Nat} {s : Vc} (hA : TOKA mu a nc np) (hn : n < 100) (h : TRQ mu m a e n) (hs : trA mu a n s) (hs2 : STA m s) (hJ : JS mu m m2 a s n) : ∃ S, sSq (wW m2 n 94 22 - wW m2 n 94 28) (wW m2 n 94 23 - wW m2 n 94 29) = nI S ∧ S ≤ 1000000 := by
  have hI := traj_inv hA.eok n (by omega) s hs
  have e94 : m2 94 = m 94 := hJ.1 94 (by decide)
  have e103 : m2 103 n = hV mu a.2.1 a.2.2.1 n := by rw [hJ.1 103 (by decide)]; exact h.2.2.2.2.1 n hn
  have e95 : m2 95 1 = mu 2 1 := by rw [hJ.1 95 (by decide), h.1.1 95 (by decide) (by decide) (by decide) (by decide)]; exact hA.2.1.1.2.1
  obtain ⟨⟨a0, a1, a2, a3, a4, a5, a6, a7, a8, -⟩, -⟩ := hs2
  obtain ⟨S, q1, q2, -⟩ := sSq_nI (p_rng (C := cupD mu) hA.eok hI) (q_rng (by omega) hA.eok hI)
  refine ⟨S, ?_, q2⟩
  rw [← q1]
  show sSq (m2 94 22 + m2 94 24 - (m2 94 28 + m2 102 n)) (m2 94 23 + (m2 94 25 - m2 95 1) - (m2 94 29 + m2 103 n)) = _
  rw [hJ.2.2, e94, e103, e95, ← a0, ← a1, ← a2, ← a3, ← a6, ← a7]
  rfl
theorem and15b (x : Int32) (h : x &&& 15 < 2) : x &&& 15 = 0 ∨ x &&& 15 = 1 := by
  have hi := and15 x
  rw [i_lt] at h
  have e2 : (2 : Int32).toInt = 2 := rfl
  rw [i_eq, i_eq]
  have e0 : (0 : Int32).toInt = 0 := rfl
  have e1 : (1 : Int32).toInt = 1 := rfl
  omega
theorem hold_26 {cord hx hy u : Int32} {f g : Vc} (h : Hold cord hx hy u f g) (h2 : g 10 < 2) : g 10 = 0 ∨ g 10 = 1 := by
  rcases h.2 with ⟨-, -, -, -, -, q, -⟩ | ⟨-, -, -, -, -, q, -⟩
  · exact Or.inl q
  · rw [q] at h2 ⊢
    exact and15b _ h2
/-- a step -/
theorem TRQ.step {mu m m2 mS m5 : Mu} {a : TA} {e r : Int32} {n nc np : Nat} {s : Vc} (hA : TOKA mu a nc np) (hn : n < 100) (h : TRQ mu m a e n) (he : m 94 18 = -4) (hs : trA mu a n s) (hs2 : STA m s) (hJ : JS mu m m2 a s n) (hW : SWG (wW m2 n) mS (m2 102 n)) (hM : MEET mS m5 (cupD mu) nc (m 94 23 - m 94 29) (m2 102 n) (nI n) r) : TRQ mu m5 a r (n + 1) ∧ m5 101 = m 101 := by
  have hs9 : s 9 = -1 := hs2.caught.mpr he
  have h12 : s 12 = nI n := traj_steps n s hs hs9
  obtain ⟨⟨f1, f2⟩, -, -, u1, v1, w1⟩ := h
  obtain ⟨j1, j2, j3⟩ := hJ
  obtain ⟨w2, w3, w4⟩ := hW
  have e94 : m2 94 = m 94 := j1 94 (by decide)
  have e103 : m2 103 n = hV mu a.2.1 a.2.2.1 n := by rw [j1 103 (by decide)]; exact v1 n hn
  have e951 : m2 95 1 = mu 2 1 := by rw [j1 95 (by decide), f1 95 (by decide) (by decide) (by decide) (by decide)]; exact hA.2.1.1.2.1
  have e952 : mS 95 2 = mu 2 2 := by rw [w2 95 (by decide), wW_k (by decide), j1 95 (by decide), f1 95 (by decide) (by decide) (by decide) (by decide)]; exact hA.2.1.1.2.2
  have e950 : wW m2 n 95 0 = a.1 := by rw [wW_k (by decide), j1 95 (by decide), f1 95 (by decide) (by decide) (by decide) (by decide)]; exact hA.2.1.1.1
  obtain ⟨⟨a0, a1, a2, a3, a4, a5, a6, a7, a8, a10, a11⟩, -⟩ := id hs2
  have s28 : mS 94 28 = s 6 + m2 102 n := by rw [w3 28 (by omega) (by decide)]; show m2 94 28 + m2 102 n = _; rw [e94, a6]
  have s29 : mS 94 29 = s 7 + m2 103 n := by rw [w3 29 (by omega) (by decide)]; show m2 94 29 + m2 103 n = _; rw [e94, a7]
  have s17 : mS 94 17 = mu 94 17 := by rw [w3 17 (by omega) (by decide), wW_i (by decide) (by decide) (by decide) (by decide) (by decide), e94]; exact f2 17 (by omega)
  have s18 : mS 94 18 = -4 := by rw [w3 18 (by omega) (by decide), wW_i (by decide) (by decide) (by decide) (by decide) (by decide), e94]; exact he
  have s19 : mS 94 19 = -4 := by
    rw [w3 19 (by omega) (by decide), wW_i (by decide) (by decide) (by decide) (by decide) (by decide), e94]
    rcases hs2.2 with ⟨-, -, q⟩ | ⟨i, hi4, q, -⟩
    · exact q
    · rw [hs9] at q; exact absurd q.symm (nI_nem1 (by omega))
  have fS : ∀ q, q ≠ 94 → q ≠ 102 → mS q = m q := fun q q1 q2 => by rw [w2 q q1, wW_k q1, j1 q q2]
  have h102 : mS 102 = m2 102 := by rw [w2 102 (by decide), wW_k (by decide)]
  -- the frame of m5
  have g5 : (∀ q, q ≠ 94 → m5 q = mS q) ∧ (∀ j, j ≠ 18 → j ≠ 19 → j ≠ 20 → j ≠ 25 → m5 94 j = mS 94 j) := by
    rcases hM with ⟨-, -, q⟩ | ⟨-, i, -, -, -, q1, q2, -⟩
    · rw [q]; exact ⟨fun _ _ => rfl, fun _ _ _ _ _ => rfl⟩
    · exact ⟨q1, q2⟩
  have m17 : ∀ j, j < 18 ∨ 30 < j → m5 94 j = mu 94 j := fun j hj => by
    rw [g5.2 j (by omega) (by omega) (by omega) (by omega), w3 j (by omega) (by omega), wW_i (by omega) (by omega) (by omega) (by omega) (by omega), e94]
    exact f2 j hj
  -- the step
  have hstep : ∃ t, Step (mkE mu a.1 a.2.2.2.1 a.2.2.2.2.1 a.2.2.2.2.2) (cupD mu) nc (hU mu a.2.1 a.2.2.1) (hV mu a.2.1 a.2.2.1) n s t ∧ STA m5 t ∧ t 13 = m2 102 n ∧ t 14 = m2 103 n := by
    refine ⟨fun j => if j = 0 then m5 94 22 else if j = 1 then m5 94 23 else if j = 2 then m5 94 24 else if j = 3 then m5 94 25 else if j = 4 then m5 94 26 else if j = 5 then m5 94 27 else if j = 6 then m5 94 28 else if j = 7 then m5 94 29 else if j = 8 then m5 94 30 else if j = 9 then (if m5 94 18 = -4 then -1 else m5 94 18) else if j = 10 then m5 94 20 else if j = 11 then m5 94 21 else if j = 12 then s 12 + 1 else if j = 13 then m2 102 n else m2 103 n, ⟨rH (wW m2 n), rH mS, rH m5, ?_, ?_, ?_, ?_, ?_⟩, ?_, rfl, rfl⟩
    · refine ⟨?_, ?_, ?_, ?_, ?_, ?_, ?_, ?_, ?_⟩
      · show m2 94 22 + m2 94 24 = _; rw [e94, a0, a2]
      · show m2 94 23 + (m2 94 25 - m2 95 1) = s 1 + (s 3 - mu 2 1); rw [e94, e951, a1, a3]
      · show m2 94 24 = _; rw [e94, a2]
      · show m2 94 25 - m2 95 1 = s 3 - mu 2 1; rw [e94, e951, a3]
      · show m2 94 26 = _; rw [e94, a4]
      · show m2 94 27 = _; rw [e94, a5]
      · show m2 94 21 = _; rw [e94, a11]
      · show (if m2 94 18 = -4 then -1 else m2 94 18) = _; rw [e94, he, if_pos rfl, hs9]
      · show m2 94 20 = _; rw [e94, a10]
    · refine ⟨j3, e103, ?_, ?_⟩
      · show m5 94 28 = s 6 + m2 102 n
        rw [g5.2 28 (by decide) (by decide) (by decide) (by decide)]; exact s28
      · show m5 94 29 = s 7 + m2 103 n
        rw [g5.2 29 (by decide) (by decide) (by decide) (by decide)]; exact s29
    · show Hold a.1 (m5 94 28) (m5 94 29) (m2 102 n) (rH (wW m2 n)) (rH mS)
      rw [g5.2 28 (by decide) (by decide) (by decide) (by decide), g5.2 29 (by decide) (by decide) (by decide) (by decide), w3 28 (by omega) (by decide), w3 29 (by omega) (by decide), ← e950]
      exact w4
    · show ((a.2.2.2.1 = 0 ∨ metC (cupD mu) nc (s 1 - s 7) (mS 94 22 - m5 94 28) (mS 94 23 - m5 94 29) = -1) ∧ rH m5 = rH mS) ∨ (¬ a.2.2.2.1 = 0 ∧ ∃ i, i < nc ∧ metC (cupD mu) nc (s 1 - s 7) (mS 94 22 - m5 94 28) (mS 94 23 - m5 94 29) = nI i ∧ Land (mu 2 2) (cupD mu i) (m5 94 28) (m2 102 n) (nI i) (rH mS) (rH m5))
      rw [g5.2 28 (by decide) (by decide) (by decide) (by decide), g5.2 29 (by decide) (by decide) (by decide) (by decide), a1, a7]
      have hmt := hA.2.2.2.2.2.1
      rcases hM with ⟨q1, -, q3⟩ | ⟨q1, i, q2, q3, q4, -⟩
      · refine Or.inl ⟨?_, by rw [q3]⟩
        rcases q1 with q1 | q1
        · rw [s17] at q1
          exact Or.inl (hmt.elim (fun x => absurd x.2 q1) (fun x => x.1))
        · exact Or.inr q1
      · rw [s17] at q1
        refine Or.inr ⟨?_, i, q2, q3, by rw [← e952]; exact q4⟩
        rcases hmt with x | x
        · rw [x.1]; decide
        · exact absurd q1 x.2
    · exact ⟨rfl, rfl, rfl, rfl, rfl, rfl, rfl, rfl, rfl, rfl, rfl⟩
    · refine ⟨⟨rfl, rfl, rfl, rfl, rfl, rfl, rfl, rfl, rfl, rfl, rfl⟩, ?_⟩
      show ((if m5 94 18 = -4 then (-1 : Int32) else m5 94 18) = -1 ∧ m5 94 18 = -4 ∧ m5 94 19 = -4) ∨ ∃ i, i < 4 ∧ (if m5 94 18 = -4 then (-1 : Int32) else m5 94 18) = nI i ∧ m5 94 18 = nI i ∧ m5 94 19 = s 12 + 1 - 1
      have h4 := hA.2.1.2.1.2.2.1
      rcases hM with ⟨-, -, q3⟩ | ⟨-, i, q2, -, -, -, -, q5⟩
      · rw [q3, s18, s19]; exact Or.inl ⟨rfl, rfl, rfl⟩
      · rcases q5 with ⟨-, q6, q7⟩ | ⟨-, q6, q7⟩
        · rw [q6, q7]
          exact Or.inr ⟨i, by omega, if_neg (nI_nem4 (by omega)), rfl, by rw [h12, add_sub1]⟩
        · rw [q6, q7, s18, s19]; exact Or.inl ⟨rfl, rfl, rfl⟩
  obtain ⟨t, t1, t2, t3, t4⟩ := hstep
  have hnc : (mu 3 2).toNatClampNeg = nc := by rw [hA.2.1.2.1.1]; exact nI_clamp (by have := hA.2.1.2.1.2.2.1; omega)
  have tr2 : trA mu a (n + 1) t := ⟨s, hs, Or.inl ⟨hs9, by rw [hnc]; exact t1⟩⟩
  refine ⟨⟨⟨fun q q1 q2 q3 q4 => by rw [g5.1 q q1, fS q q1 q3]; exact f1 q q1 q2 q3 q4, m17⟩, ⟨t, tr2, t2⟩, ?_, fun k k1 k2 => ?_, fun k k1 => ?_, fun k k1 k2 => ?_⟩, ?_⟩
  · rcases hM with ⟨-, q2, q3⟩ | ⟨-, i, q0, -, -, -, -, q5⟩
    · rw [q3]; exact Or.inl ⟨q2, s18⟩
    · have h4 := hA.2.1.2.1.2.2.1
      rcases q5 with ⟨q5, q6, -⟩ | ⟨q5, q6, -⟩
      · exact Or.inr ⟨q5, by rw [q6]; exact nI_nem4 (by omega)⟩
      · exact Or.inl ⟨q5, q6.trans s18⟩
  · rw [g5.1 102 (by decide), h102, j2 k (by omega)]; exact u1 k (by omega) k2
  · rw [g5.1 103 (by decide), fS 103 (by decide) (by decide)]; exact v1 k k1
  · by_cases q : k = n
    · subst q
      rw [g5.1 102 (by decide), h102, g5.1 103 (by decide), fS 103 (by decide) (by decide), hA.tv tr2 (by decide), hA.tv tr2 (by decide), t3, t4, j1 103 (by decide)]
      exact ⟨rfl, rfl⟩
    · rw [g5.1 102 (by decide), h102, j2 k q, g5.1 103 (by decide), fS 103 (by decide) (by decide)]
      exact w1 k (by omega) k2
  · rw [g5.1 101 (by decide), fS 101 (by decide) (by decide)]
