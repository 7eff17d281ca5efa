/-! ===== the calls that change the setup ===== -/
def Ps (mu : Mu) (b : Nat) (S : Vc) : Prop := (rg (mu (b + 1) 0) 10 60 ∧ rg (mu (b + 1) 1) 1 4 ∧ rg (mu (b + 1) 2) 0 20) ∧ SRs mu b S
def Pc (mu : Mu) (b : Nat) (C : Vc) (z : Nat) : Prop := (z ≤ 4 ∧ mu (b + 2) 1 = nI 5 ∧ mu (b + 2) 2 = nI z ∧ ∀ i, i < z → rg (mu (b + 4 + i) 0) (-9) 9 ∧ rg (mu (b + 4 + i) 1) (-9) 9 ∧ rg (mu (b + 4 + i) 2) 0 9 ∧ rg (mu (b + 4 + i) 3) 0 99 ∧ rg (mu (b + 4 + i) 4) 0 1) ∧ ∀ i, i < z → ∀ j, j < 5 → C (5 * i + j) = mu (b + 4 + i) j
def Pp (mu : Mu) (b : Nat) (P : Vc) (z : Nat) : Prop := (z ≤ 6 ∧ mu (b + 8) 1 = nI 3 ∧ mu (b + 8) 2 = nI z ∧ ∀ i, i < z → rg (mu (b + 10 + i) 0) 1 20 ∧ rg (mu (b + 10 + i) 1) (-9) 9 ∧ rg (mu (b + 10 + i) 2) (-9) 9) ∧ ∀ i, i < z → ∀ j, j < 3 → P (3 * i + j) = mu (b + 10 + i) j
def Pt (mu : Mu) (b : Nat) (T : Vc) (z : Nat) : Prop := (z ≤ 8 ∧ mu (b + 16) 1 = nI 4 ∧ mu (b + 16) 2 = nI z ∧ ∀ i, i < z → rg (mu (b + 18 + i) 0) 0 16 ∧ rg (mu (b + 18 + i) 1) 1 60 ∧ rg (mu (b + 18 + i) 2) 0 1584 ∧ rg (mu (b + 18 + i) 3) 1 9) ∧ ∀ i, i < z → T (4 * i) = mu (b + 18 + i) 0 ∧ T (4 * i + 1) = mu (b + 18 + i) 1 ∧ T (4 * i) * T (4 * i + 2) = mu (b + 18 + i) 2 ∧ T (4 * i + 3) = mu (b + 18 + i) 3
theorem SR.mk {mu : Mu} {b : Nat} {S C P T : Vc} {nc np nt : Nat} (h1 : Ps mu b S) (h2 : Pc mu b C nc) (h3 : Pp mu b P np) (h4 : Pt mu b T nt) : SR mu b S C P T nc np nt :=
  ⟨⟨h1.1, ⟨nc, h2.1⟩, ⟨np, h3.1⟩, ⟨nt, h4.1⟩⟩, h1.2, ⟨h2.1.2.2.1, h2.1.1, h2.2⟩, ⟨h3.1.2.2.1, h3.1.1, h3.2⟩, ⟨h4.1.2.2.1, h4.1.1, h4.2⟩⟩
theorem SR.ps {mu : Mu} {b : Nat} {S C P T : Vc} {nc np nt : Nat} (h : SR mu b S C P T nc np nt) : Ps mu b S := ⟨h.1.1, h.2.1⟩
theorem SR.pc {mu : Mu} {b : Nat} {S C P T : Vc} {nc np nt : Nat} (h : SR mu b S C P T nc np nt) : Pc mu b C nc := by
  obtain ⟨⟨-, ⟨z, z1, z2, z3, z4⟩, -, -⟩, -, ⟨c1, c2, c3⟩, -, -⟩ := h
  have e : z = nc := nI_in1 z3 c1 (by omega) (by omega)
  subst e
  exact ⟨⟨z1, z2, z3, z4⟩, c3⟩
theorem SR.pp {mu : Mu} {b : Nat} {S C P T : Vc} {nc np nt : Nat} (h : SR mu b S C P T nc np nt) : Pp mu b P np := by
  obtain ⟨⟨-, -, ⟨z, z1, z2, z3, z4⟩, -⟩, -, -, ⟨c1, c2, c3⟩, -⟩ := h
  have e : z = np := nI_in1 z3 c1 (by omega) (by omega)
  subst e
  exact ⟨⟨z1, z2, z3, z4⟩, c3⟩
theorem SR.pt {mu : Mu} {b : Nat} {S C P T : Vc} {nc np nt : Nat} (h : SR mu b S C P T nc np nt) : Pt mu b T nt := by
  obtain ⟨⟨-, -, -, ⟨z, z1, z2, z3, z4⟩⟩, -, -, -, ⟨c1, c2, c3⟩⟩ := h
  have e : z = nt := nI_in1 z3 c1 (by omega) (by omega)
  subst e
  exact ⟨⟨z1, z2, z3, z4⟩, c3⟩
theorem Ps.cg {mu m : Mu} {b : Nat} {S S2 : Vc} (h : Ps mu b S) (hq : m (b + 1) = mu (b + 1)) (hS : ∀ j, j < 3 → S2 j = S j) : Ps m b S2 := by
  obtain ⟨h1, h2⟩ := h
  unfold Ps SRs
  rw [hq]
  exact ⟨h1, fun j hj => (hS j hj).trans (h2 j hj)⟩
theorem Pc.cg {mu m : Mu} {b z : Nat} {C C2 : Vc} (h : Pc mu b C z) (hq : ∀ q, b + 2 ≤ q → q ≤ b + 7 → m q = mu q) (hS : ∀ j, j < 5 * z → C2 j = C j) : Pc m b C2 z := by
  obtain ⟨⟨a1, a2, a3, a4⟩, h2⟩ := h
  refine ⟨⟨a1, by rw [hq _ (by omega) (by omega)]; exact a2, by rw [hq _ (by omega) (by omega)]; exact a3, fun i hi => by rw [hq (b + 4 + i) (by omega) (by omega)]; exact a4 i hi⟩, fun i hi j hj => ?_⟩
  rw [hq (b + 4 + i) (by omega) (by omega), hS _ (by omega)]
  exact h2 i hi j hj
theorem Pp.cg {mu m : Mu} {b z : Nat} {C C2 : Vc} (h : Pp mu b C z) (hq : ∀ q, b + 8 ≤ q → q ≤ b + 15 → m q = mu q) (hS : ∀ j, j < 3 * z → C2 j = C j) : Pp m b C2 z := by
  obtain ⟨⟨a1, a2, a3, a4⟩, h2⟩ := h
  refine ⟨⟨a1, by rw [hq _ (by omega) (by omega)]; exact a2, by rw [hq _ (by omega) (by omega)]; exact a3, fun i hi => by rw [hq (b + 10 + i) (by omega) (by omega)]; exact a4 i hi⟩, fun i hi j hj => ?_⟩
  rw [hq (b + 10 + i) (by omega) (by omega), hS _ (by omega)]
  exact h2 i hi j hj
theorem Pt.cg {mu m : Mu} {b z : Nat} {C C2 : Vc} (h : Pt mu b C z) (hq : ∀ q, b + 16 ≤ q → q ≤ b + 25 → m q = mu q) (hS : ∀ j, j < 4 * z → C2 j = C j) : Pt m b C2 z := by
  obtain ⟨⟨a1, a2, a3, a4⟩, h2⟩ := h
  refine ⟨⟨a1, by rw [hq _ (by omega) (by omega)]; exact a2, by rw [hq _ (by omega) (by omega)]; exact a3, fun i hi => by rw [hq (b + 18 + i) (by omega) (by omega)]; exact a4 i hi⟩, fun i hi => ?_⟩
  rw [hq (b + 18 + i) (by omega) (by omega), hS _ (by omega), hS _ (by omega), hS _ (by omega), hS _ (by omega)]
  exact h2 i hi
theorem Pc.go {mu m1 m : Mu} {z : Nat} {V : Vc} (h : Pc mu 1 (mu 96) z) (hz : z < 4) (h1 : AR mu m1 3 5 z V 5) (h2 : PT m1 m 96 (5 * z) 5 V) (hV : rg (V 0) (-9) 9 ∧ rg (V 1) (-9) 9 ∧ rg (V 2) 0 9 ∧ rg (V 3) 0 99 ∧ rg (V 4) 0 1) : Pc m 1 (m 96) (z + 1) := by
  obtain ⟨⟨a1, a2, a3, a4⟩, a5⟩ := h
  obtain ⟨b1, b2, b3, b4⟩ := h1
  obtain ⟨c1, c2, c3⟩ := h2
  have ez : ∀ j, j < 5 → m (1 + 4 + z) j = V j := fun j hj => by rw [c1 (1 + 4 + z) (by omega)]; exact b4 j hj
  have eo : ∀ i, i < z → m (1 + 4 + i) = mu (1 + 4 + i) := fun i hi => by rw [c1 (1 + 4 + i) (by omega)]; exact b3 (1 + 4 + i) (by omega) (by omega)
  refine ⟨⟨by omega, by rw [c1 (1 + 2) (by omega)]; exact b2, by rw [c1 (1 + 2) (by omega)]; exact b1, fun i hi => ?_⟩, fun i hi j hj => ?_⟩
  · by_cases e : i = z
    · subst e
      rw [ez 0 (by omega), ez 1 (by omega), ez 2 (by omega), ez 3 (by omega), ez 4 (by omega)]
      exact hV
    · rw [eo i (by omega)]
      exact a4 i (by omega)
  · by_cases e : i = z
    · subst e
      rw [ez j hj]
      exact c3 j hj
    · rw [eo i (by omega), c2 _ (by omega), b3 96 (by omega) (by omega)]
      exact a5 i (by omega) j hj
theorem Pp.go {mu m1 m : Mu} {z : Nat} {V : Vc} (h : Pp mu 1 (mu 97) z) (hz : z < 6) (h1 : AR mu m1 9 3 z V 3) (h2 : PT m1 m 97 (3 * z) 3 V) (hV : rg (V 0) 1 20 ∧ rg (V 1) (-9) 9 ∧ rg (V 2) (-9) 9) : Pp m 1 (m 97) (z + 1) := by
  obtain ⟨⟨a1, a2, a3, a4⟩, a5⟩ := h
  obtain ⟨b1, b2, b3, b4⟩ := h1
  obtain ⟨c1, c2, c3⟩ := h2
  have ez : ∀ j, j < 3 → m (1 + 10 + z) j = V j := fun j hj => by rw [c1 (1 + 10 + z) (by omega)]; exact b4 j hj
  have eo : ∀ i, i < z → m (1 + 10 + i) = mu (1 + 10 + i) := fun i hi => by rw [c1 (1 + 10 + i) (by omega)]; exact b3 (1 + 10 + i) (by omega) (by omega)
  refine ⟨⟨by omega, by rw [c1 (1 + 8) (by omega)]; exact b2, by rw [c1 (1 + 8) (by omega)]; exact b1, fun i hi => ?_⟩, fun i hi j hj => ?_⟩
  · by_cases e : i = z
    · subst e
      rw [ez 0 (by omega), ez 1 (by omega), ez 2 (by omega)]
      exact hV
    · rw [eo i (by omega)]
      exact a4 i (by omega)
  · by_cases e : i = z
    · subst e
      rw [ez j hj]
      exact c3 j hj
    · rw [eo i (by omega), c2 _ (by omega), b3 97 (by omega) (by omega)]
      exact a5 i (by omega) j hj
theorem Pt.go {mu m1 m : Mu} {z : Nat} {V V2 : Vc} (h : Pt mu 1 (mu 98) z) (hz : z < 8) (h1 : AR mu m1 17 4 z V 4) (h2 : PT m1 m 98 (4 * z) 4 V2) (hV : rg (V 0) 0 16 ∧ rg (V 1) 1 60 ∧ rg (V 2) 0 1584 ∧ rg (V 3) 1 9) (e0 : V2 0 = V 0) (e1 : V2 1 = V 1) (e2 : V2 0 * V2 2 = V 2) (e3 : V2 3 = V 3) : Pt m 1 (m 98) (z + 1) := by
  obtain ⟨⟨a1, a2, a3, a4⟩, a5⟩ := h
  obtain ⟨b1, b2, b3, b4⟩ := h1
  obtain ⟨c1, c2, c3⟩ := h2
  have ez : ∀ j, j < 4 → m (1 + 18 + z) j = V j := fun j hj => by rw [c1 (1 + 18 + z) (by omega)]; exact b4 j hj
  have eo : ∀ i, i < z → m (1 + 18 + i) = mu (1 + 18 + i) := fun i hi => by rw [c1 (1 + 18 + i) (by omega)]; exact b3 (1 + 18 + i) (by omega) (by omega)
  refine ⟨⟨by omega, by rw [c1 (1 + 16) (by omega)]; exact b2, by rw [c1 (1 + 16) (by omega)]; exact b1, fun i hi => ?_⟩, fun i hi => ?_⟩
  · by_cases e : i = z
    · subst e
      rw [ez 0 (by omega), ez 1 (by omega), ez 2 (by omega), ez 3 (by omega)]
      exact hV
    · rw [eo i (by omega)]
      exact a4 i (by omega)
  · by_cases e : i = z
    · subst e
      rw [ez 0 (by omega), ez 1 (by omega), ez 2 (by omega), ez 3 (by omega), show m 98 (4 * i) = V2 0 from c3 0 (by omega), c3 1 (by omega), c3 2 (by omega), c3 3 (by omega)]
      exact ⟨e0, e1, e2, e3⟩
    · rw [eo i (by omega), c2 _ (by omega), c2 _ (by omega), c2 _ (by omega), c2 _ (by omega), b3 98 (by omega) (by omega)]
      exact a5 i (by omega)
/-- all but the setup itself -/
def R0 (mu : Mu) : Prop := R2 mu ∧ R3 mu ∧ R4 mu ∧ R5 mu
theorem R0.cg {mu m : Mu} (h : R0 mu) (f : ∀ q, (q = 0 ∨ (27 ≤ q ∧ q ≤ 52) ∨ (70 ≤ q ∧ q ≤ 93) ∨ 99 ≤ q) → m q = mu q) (f2 : ∀ j, j ≠ 1 → j ≠ 3 → j ≠ 5 → m 94 j = mu 94 j) : R0 m :=
  ⟨h.1.cg (by rw [f 0 (by omega)]) (fun q _ _ => f q (by omega)) (f 108 (by omega)) (f2 36 (by omega) (by omega) (by omega)), h.2.1.cg (by rw [f 70 (by omega)]) (f 71 (by omega)) (by rw [f 72 (by omega)]) (by rw [f 78 (by omega)]) (f 99 (by omega)) (f2 8 (by omega) (by omega) (by omega)), h.2.2.1.cg (fun q _ => f q (by omega)), h.2.2.2.cg (fun j _ => f2 j (by omega) (by omega) (by omega))⟩
theorem RelN.r0 {mu : Mu} {nc np nt : Nat} (h : RelN mu nc np nt) : R0 mu := h.2
theorem in_rg9 {x : Int32} (h : inB x (-9) 9 = true) : rg x (-9) 9 := inB_rg (l := -9) (m := 9) h (by decide) (by decide) (by decide) (by decide)
set_option maxRecDepth 100000 in
theorem q_set (mu : Mu) (h : Rel mu) (what v : Int32) : Con yX8_set cX8_set 4 (some .int) 1 [vC 0, vI what, vI v] mu (fun r m1 => Con yX9_set cX9_set 4 (some .int) 1 [vC 94, vI what, vI v] m1 (fun r2 m2 => r2 = r ∧ Rel m2)) := by
  obtain ⟨nc, np, nt, h⟩ := h
  refine con_wk (c_X8_set mu what v) (fun r m1 h1 => ?_)
  refine con_wk (c_X9_set m1 what v) (fun r2 m2 h2 => ?_)
  rcases h1 with ⟨g, e1, rfl⟩ | ⟨g, e1, rfl⟩ <;> rcases h2 with ⟨g2, e4, rfl⟩ | ⟨g2, e4, rfl⟩
  · have hg := Bool.and_eq_true_iff.mp g
    obtain ⟨w, ew, -, hw⟩ := inB_nI (l := 0) (m := 2) (by decide) (by decide) hg.1
    have hv := hg.2
    rw [ew, nI_clamp (by omega)] at e1 e4 hv ⊢
    rw [upF_k (by decide)] at e4
    refine ⟨by rw [e4, e1]; exact h.1.1.2.1 w (by omega), nc, np, nt, ⟨?_, h.1.2⟩, h.r0.cg (fun q hq => by rw [upF_k (by omega), upF_k (by omega)]) (fun j _ _ _ => by rw [upF_k (by decide), upF_k (by decide)])⟩
    refine SR.mk ⟨?_, fun j hj => ?_⟩ (h.1.1.pc.cg (fun q _ _ => by rw [upF_k (by omega), upF_k (by omega)]) (fun j _ => by rw [upF_k (by decide), upF_k (by decide)])) (h.1.1.pp.cg (fun q _ _ => by rw [upF_k (by omega), upF_k (by omega)]) (fun j _ => by rw [upF_k (by decide), upF_k (by decide)])) (h.1.1.pt.cg (fun q _ _ => by rw [upF_k (by omega), upF_k (by omega)]) (fun j _ => by rw [upF_k (by decide), upF_k (by decide)]))
    · have hr := h.1.1.1.1
      rw [upF_k (show (1 + 1 : Nat) ≠ 95 by decide)]
      rcases (show w = 0 ∨ w = 1 ∨ w = 2 by omega) with e | e | e <;> subst e
      · exact ⟨by rw [show upF mu 2 0 v (1 + 1) 0 = v from upF_s]; exact inB_rg (l := 10) (m := 60) hv (by decide) (by decide) (by decide) (by decide), by rw [show upF mu 2 0 v (1 + 1) 1 = mu 2 1 from upF_i (by decide)]; exact hr.2.1, by rw [show upF mu 2 0 v (1 + 1) 2 = mu 2 2 from upF_i (by decide)]; exact hr.2.2⟩
      · exact ⟨by rw [show upF mu 2 1 v (1 + 1) 0 = mu 2 0 from upF_i (by decide)]; exact hr.1, by rw [show upF mu 2 1 v (1 + 1) 1 = v from upF_s]; exact inB_rg (l := 1) (m := 4) hv (by decide) (by decide) (by decide) (by decide), by rw [show upF mu 2 1 v (1 + 1) 2 = mu 2 2 from upF_i (by decide)]; exact hr.2.2⟩
      · exact ⟨by rw [show upF mu 2 2 v (1 + 1) 0 = mu 2 0 from upF_i (by decide)]; exact hr.1, by rw [show upF mu 2 2 v (1 + 1) 1 = mu 2 1 from upF_i (by decide)]; exact hr.2.1, by rw [show upF mu 2 2 v (1 + 1) 2 = v from upF_s]; exact inB_rg (l := 0) (m := 20) hv (by decide) (by decide) (by decide) (by decide)⟩
    · by_cases e : j = w
      · subst e
        rw [upF_s, upF_k (show (1 + 1 : Nat) ≠ 95 by decide)]
        exact upF_s.symm
      · rw [upF_i e, upF_k (by decide), upF_k (show (1 + 1 : Nat) ≠ 95 by decide), show upF mu 2 w v (1 + 1) j = mu 2 j from upF_i e]
        exact h.1.1.2.1 j hj
  · exact bf g g2
  · exact bf g2 g
  · exact ⟨by rw [e4, e1], .of h⟩
set_option maxRecDepth 100000 in
theorem q_cup (mu : Mu) (h : Rel mu) (x y wd0 worth spk : Int32) : Con yX8_cup cX8_cup 7 (some .int) 3 [vC 0, vI x, vI y, vI wd0, vI worth, vI spk] mu (fun r m1 => Con yX9_cup cX9_cup 6 (some .int) 2 [vC 94, vI x, vI y, vI wd0, vI worth, vI spk] m1 (fun r2 m2 => r2 = r ∧ Rel m2)) := by
  obtain ⟨nc, np, nt, h⟩ := h
  refine con_wk (c_X8_cup mu h.sok x y wd0 worth spk) (fun r m1 h1 => ?_)
  have e94 : m1 94 = mu 94 := by
    rcases h1 with ⟨-, -, rfl⟩ | ⟨-, -, -, rfl⟩ | ⟨-, z, hz, -, -, h1⟩
    · rfl
    · rfl
    · exact h1.2.2.1 94 (by omega) (by omega)
  refine con_wk (c_X9_cup m1 nc h.1.1.2.2.1.2.1 (by rw [e94]; exact h.1.2.1) x y wd0 worth spk) (fun r2 m2 h2 => ?_)
  have e32 := h.1.1.2.2.1.1
  have hn4 := h.1.1.2.2.1.2.1
  have efu : fullB mu 3 4 = true → nc = 4 := fun hfu => by
    have := of_decide_eq_true hfu
    rw [show mu 3 2 = nI nc from e32] at this
    by_cases q : nc < 4
    · exact absurd (nI_lt q (by omega)) this
    · omega
  rcases h1 with ⟨g, e1, rfl⟩ | ⟨g, fu, e1, rfl⟩ | ⟨g, z, hz, ez, e1, h1⟩ <;> rcases h2 with ⟨g2, e4, rfl⟩ | ⟨g2, n4, e4, rfl⟩ | ⟨g2, n4, e4, m, hm, rfl⟩
  · exact ⟨by rw [e4, e1], .of h⟩
  · exact bf g2 g
  · exact bf g2 g
  · exact bf g g2
  · exact ⟨by rw [e4, e1], .of h⟩
  · exact absurd (efu fu) (by omega)
  · exact bf g g2
  · exact absurd (nI_in1 ez e32 (by omega) (by omega)) (by omega)
  · have e9 : z = nc := nI_in1 ez e32 (by omega) (by omega)
    subst e9
    have gg := Bool.and_eq_true_iff.mp g
    have gg2 := Bool.and_eq_true_iff.mp gg.1
    have gg3 := Bool.and_eq_true_iff.mp gg2.1
    have hf : ∀ q, q ≠ 3 → q ≠ 5 + z → q ≠ 96 → m q = mu q := fun q q1 q2 q3 => (hm.1 q q3).trans (h1.2.2.1 q q1 (by omega))
    have hf2 : ∀ q, q ≠ 94 → upF m 94 1 (nI (z + 1)) q = m q := fun q hq => upF_k hq
    have hPc := h.1.1.pc.go hz h1 hm ⟨in_rg9 gg3.1, in_rg9 gg3.2, inB_rg (l := 0) (m := 9) gg2.2 (by decide) (by decide) (by decide) (by decide), inB_rg (l := 0) (m := 99) gg.2 (by decide) (by decide) (by decide) (by decide), by show rg (if spk = 0 then 0 else 1) 0 1; split <;> exact ⟨by decide, by decide⟩⟩
    refine ⟨by rw [e4, e1], z + 1, np, nt, ⟨?_, upF_s, ?_, ?_⟩, h.r0.cg (fun q hq => by rw [hf2 q (by omega)]; exact hf q (by omega) (by omega) (by omega)) (fun j j1 _ _ => by rw [upF_i j1, hf 94 (by omega) (by omega) (by omega)])⟩
    · rw [hf2 95 (by omega), hf2 96 (by omega), hf2 97 (by omega), hf2 98 (by omega)]
      refine SR.mk (h.1.1.ps.cg (by rw [hf2 _ (by omega)]; exact hf _ (by omega) (by omega) (by omega)) (fun j _ => by rw [hf 95 (by omega) (by omega) (by omega)])) (hPc.cg (fun q _ _ => hf2 q (by omega)) (fun _ _ => rfl)) (h.1.1.pp.cg (fun q _ _ => by rw [hf2 q (by omega)]; exact hf q (by omega) (by omega) (by omega)) (fun j _ => by rw [hf 97 (by omega) (by omega) (by omega)])) (h.1.1.pt.cg (fun q _ _ => by rw [hf2 q (by omega)]; exact hf q (by omega) (by omega) (by omega)) (fun j _ => by rw [hf 98 (by omega) (by omega) (by omega)]))
    · rw [upF_i (by decide), hf 94 (by omega) (by omega) (by omega)]; exact h.1.2.2.1
    · rw [upF_i (by decide), hf 94 (by omega) (by omega) (by omega)]; exact h.1.2.2.2
set_option maxRecDepth 100000 in
theorem q_part (mu : Mu) (h : Rel mu) (stp u v : Int32) : Con yX8_part cX8_part 5 (some .int) 3 [vC 0, vI stp, vI u, vI v] mu (fun r m1 => Con yX9_part cX9_part 4 (some .int) 2 [vC 94, vI stp, vI u, vI v] m1 (fun r2 m2 => r2 = r ∧ Rel m2)) := by
  obtain ⟨nc, np, nt, h⟩ := h
  refine con_wk (c_X8_part mu h.sok stp u v) (fun r m1 h1 => ?_)
  have e94 : m1 94 = mu 94 := by
    rcases h1 with ⟨-, -, rfl⟩ | ⟨-, -, -, rfl⟩ | ⟨-, z, hz, -, -, h1⟩
    · rfl
    · rfl
    · exact h1.2.2.1 94 (by omega) (by omega)
  refine con_wk (c_X9_part m1 np h.1.1.2.2.2.1.2.1 (by rw [e94]; exact h.1.2.2.1) stp u v) (fun r2 m2 h2 => ?_)
  have e32 := h.1.1.2.2.2.1.1
  have hn4 := h.1.1.2.2.2.1.2.1
  have efu : fullB mu 9 6 = true → np = 6 := fun hfu => by
    have := of_decide_eq_true hfu
    rw [show mu 9 2 = nI np from e32] at this
    by_cases q : np < 6
    · exact absurd (nI_lt q (by omega)) this
    · omega
  rcases h1 with ⟨g, e1, rfl⟩ | ⟨g, fu, e1, rfl⟩ | ⟨g, z, hz, ez, e1, h1⟩ <;> rcases h2 with ⟨g2, e4, rfl⟩ | ⟨g2, n4, e4, rfl⟩ | ⟨g2, n4, e4, m, hm, rfl⟩
  · exact ⟨by rw [e4, e1], .of h⟩
  · exact bf g2 g
  · exact bf g2 g
  · exact bf g g2
  · exact ⟨by rw [e4, e1], .of h⟩
  · exact absurd (efu fu) (by omega)
  · exact bf g g2
  · exact absurd (nI_in1 ez e32 (by omega) (by omega)) (by omega)
  · have e9 : z = np := nI_in1 ez e32 (by omega) (by omega)
    subst e9
    have gg := Bool.and_eq_true_iff.mp g
    have gg2 := Bool.and_eq_true_iff.mp gg.1
    have hf : ∀ q, q ≠ 9 → q ≠ 11 + z → q ≠ 97 → m q = mu q := fun q q1 q2 q3 => (hm.1 q q3).trans (h1.2.2.1 q q1 (by omega))
    have hf2 : ∀ q, q ≠ 94 → upF m 94 3 (nI (z + 1)) q = m q := fun q hq => upF_k hq
    have hPc := h.1.1.pp.go hz h1 hm ⟨inB_rg (l := 1) (m := 20) gg.2 (by decide) (by decide) (by decide) (by decide), in_rg9 gg2.1, in_rg9 gg2.2⟩
    refine ⟨by rw [e4, e1], nc, z + 1, nt, ⟨?_, ?_, upF_s, ?_⟩, h.r0.cg (fun q hq => by rw [hf2 q (by omega)]; exact hf q (by omega) (by omega) (by omega)) (fun j _ j1 _ => by rw [upF_i j1, hf 94 (by omega) (by omega) (by omega)])⟩
    · rw [hf2 95 (by omega), hf2 96 (by omega), hf2 97 (by omega), hf2 98 (by omega)]
      refine SR.mk (h.1.1.ps.cg (by rw [hf2 _ (by omega)]; exact hf _ (by omega) (by omega) (by omega)) (fun j _ => by rw [hf 95 (by omega) (by omega) (by omega)])) (h.1.1.pc.cg (fun q _ _ => by rw [hf2 q (by omega)]; exact hf q (by omega) (by omega) (by omega)) (fun j _ => by rw [hf 96 (by omega) (by omega) (by omega)])) (hPc.cg (fun q _ _ => hf2 q (by omega)) (fun _ _ => rfl)) (h.1.1.pt.cg (fun q _ _ => by rw [hf2 q (by omega)]; exact hf q (by omega) (by omega) (by omega)) (fun j _ => by rw [hf 98 (by omega) (by omega) (by omega)]))
    · rw [upF_i (by decide), hf 94 (by omega) (by omega) (by omega)]; exact h.1.2.1
    · rw [upF_i (by decide), hf 94 (by omega) (by omega) (by omega)]; exact h.1.2.2.2
theorem od_rg {od worth : Int32} (h1 : inB od 0 16 = true) (h2 : inB worth 0 99 = true) : rg (od * worth) 0 1584 := by
  have a := inB_rg (l := 0) (m := 16) h1 (by decide) (by decide) (by decide) (by decide)
  have b := inB_rg (l := 0) (m := 99) h2 (by decide) (by decide) (by decide) (by decide)
  have hm : 0 ≤ od.toInt * worth.toInt ∧ od.toInt * worth.toInt ≤ 1584 := by
    have h3 : od.toInt * worth.toInt ≤ 16 * 99 := Int.mul_le_mul a.2 b.2 b.1 (by decide)
    exact ⟨Int.mul_nonneg a.1 b.1, h3⟩
  unfold rg
  rw [i_mul (by omega) (by omega)]
  exact hm
set_option maxRecDepth 100000 in
theorem q_trick (mu : Mu) (h : Rel mu) (od sec worth may : Int32) : Con yX8_trick cX8_trick 7 (some .int) 2 [vC 0, vI od, vI sec, vI worth, vI may] mu (fun r m1 => Con yX9_trick cX9_trick 5 (some .int) 1 [vC 94, vI od, vI sec, vI worth, vI may] m1 (fun r2 m2 => r2 = r ∧ Rel m2)) := by
  obtain ⟨nc, np, nt, h⟩ := h
  refine con_wk (c_X8_trick mu h.sok od sec worth may) (fun r m1 h1 => ?_)
  have e94 : m1 94 = mu 94 := by
    rcases h1 with ⟨-, -, rfl⟩ | ⟨-, -, -, rfl⟩ | ⟨-, z, hz, -, -, h1⟩
    · rfl
    · rfl
    · exact h1.2.2.1 94 (by omega) (by omega)
  refine con_wk (c_X9_trick m1 nt h.1.1.2.2.2.2.2.1 (by rw [e94]; exact h.1.2.2.2) od sec worth may) (fun r2 m2 h2 => ?_)
  have e32 := h.1.1.2.2.2.2.1
  have hn4 := h.1.1.2.2.2.2.2.1
  have efu : fullB mu 17 8 = true → nt = 8 := fun hfu => by
    have := of_decide_eq_true hfu
    rw [show mu 17 2 = nI nt from e32] at this
    by_cases q : nt < 8
    · exact absurd (nI_lt q (by omega)) this
    · omega
  rcases h1 with ⟨g, e1, rfl⟩ | ⟨g, fu, e1, rfl⟩ | ⟨g, z, hz, ez, e1, h1⟩ <;> rcases h2 with ⟨g2, e4, rfl⟩ | ⟨g2, n4, e4, rfl⟩ | ⟨g2, n4, e4, m, hm, rfl⟩
  · exact ⟨by rw [e4, e1], .of h⟩
  · exact bf g2 g
  · exact bf g2 g
  · exact bf g g2
  · exact ⟨by rw [e4, e1], .of h⟩
  · exact absurd (efu fu) (by omega)
  · exact bf g g2
  · exact absurd (nI_in1 ez e32 (by omega) (by omega)) (by omega)
  · have e9 : z = nt := nI_in1 ez e32 (by omega) (by omega)
    subst e9
    have gg := Bool.and_eq_true_iff.mp g
    have gg2 := Bool.and_eq_true_iff.mp gg.1
    have gg3 := Bool.and_eq_true_iff.mp gg2.1
    have hf : ∀ q, q ≠ 17 → q ≠ 19 + z → q ≠ 98 → m q = mu q := fun q q1 q2 q3 => (hm.1 q q3).trans (h1.2.2.1 q q1 (by omega))
    have hf2 : ∀ q, q ≠ 94 → upF m 94 5 (nI (z + 1)) q = m q := fun q hq => upF_k hq
    have hPc := h.1.1.pt.go hz h1 hm ⟨inB_rg (l := 0) (m := 16) gg3.1 (by decide) (by decide) (by decide) (by decide), inB_rg (l := 1) (m := 60) gg2.2 (by decide) (by decide) (by decide) (by decide), od_rg gg3.1 gg3.2, inB_rg (l := 1) (m := 9) gg.2 (by decide) (by decide) (by decide) (by decide)⟩ rfl rfl rfl rfl
    refine ⟨by rw [e4, e1], nc, np, z + 1, ⟨?_, ?_, ?_, upF_s⟩, h.r0.cg (fun q hq => by rw [hf2 q (by omega)]; exact hf q (by omega) (by omega) (by omega)) (fun j _ _ j1 => by rw [upF_i j1, hf 94 (by omega) (by omega) (by omega)])⟩
    · rw [hf2 95 (by omega), hf2 96 (by omega), hf2 97 (by omega), hf2 98 (by omega)]
      refine SR.mk (h.1.1.ps.cg (by rw [hf2 _ (by omega)]; exact hf _ (by omega) (by omega) (by omega)) (fun j _ => by rw [hf 95 (by omega) (by omega) (by omega)])) (h.1.1.pc.cg (fun q _ _ => by rw [hf2 q (by omega)]; exact hf q (by omega) (by omega) (by omega)) (fun j _ => by rw [hf 96 (by omega) (by omega) (by omega)])) (h.1.1.pp.cg (fun q _ _ => by rw [hf2 q (by omega)]; exact hf q (by omega) (by omega) (by omega)) (fun j _ => by rw [hf 97 (by omega) (by omega) (by omega)])) (hPc.cg (fun q _ _ => hf2 q (by omega)) (fun _ _ => rfl))
    · rw [upF_i (by decide), hf 94 (by omega) (by omega) (by omega)]; exact h.1.2.1
    · rw [upF_i (by decide), hf 94 (by omega) (by omega) (by omega)]; exact h.1.2.2.1
set_option maxRecDepth 100000 in
theorem q_still (mu : Mu) (h : Rel mu) : Con yX8_still cX8_still 1 (some .int) 1 [vC 0] mu (fun r m1 => Con yX9_still cX9_still 2 (some .int) 0 [vC 94] m1 (fun r2 m2 => r2 = r ∧ Rel m2)) := by
  obtain ⟨nc, np, nt, h⟩ := h
  refine con_wk (c_X8_still mu) (fun r m1 h1 => ?_)
  refine con_wk (c_X9_still m1) (fun r2 m2 h2 => ?_)
  obtain ⟨rfl, e1⟩ := h1
  obtain ⟨rfl, e2⟩ := h2
  have hf : ∀ q, q ≠ 9 → q ≠ 94 → upF (upF mu 9 2 0) 94 3 0 q = mu q := fun q q1 q2 => by rw [upF_k q2, upF_k q1]
  refine ⟨by rw [e2, e1, upF_k (by decide)]; exact h.1.2.2.1.trans h.1.1.2.2.2.1.1.symm, nc, 0, nt, ⟨?_, by rw [upF_i (by decide), upF_k (by decide)]; exact h.1.2.1, by rw [upF_s]; rfl, by rw [upF_i (by decide), upF_k (by decide)]; exact h.1.2.2.2⟩, h.r0.cg (fun q hq => hf q (by omega) (by omega)) (fun j _ j1 _ => by rw [upF_i j1, upF_k (by decide)])⟩
  refine SR.mk (h.1.1.ps.cg (hf _ (by omega) (by omega)) (fun j _ => by rw [hf 95 (by omega) (by omega)])) (h.1.1.pc.cg (fun q _ _ => hf q (by omega) (by omega)) (fun j _ => by rw [hf 96 (by omega) (by omega)])) ⟨⟨by omega, ?_, ?_, fun i hi => by omega⟩, fun i hi => by omega⟩ (h.1.1.pt.cg (fun q _ _ => hf q (by omega) (by omega)) (fun j _ => by rw [hf 98 (by omega) (by omega)]))
  · rw [upF_k (show (1 + 8 : Nat) ≠ 94 by decide), show upF mu 9 2 0 (1 + 8) 1 = mu 9 1 from upF_i (by decide)]; exact h.1.1.pp.1.2.1
  · rw [upF_k (show (1 + 8 : Nat) ≠ 94 by decide)]; exact upF_s
set_option maxRecDepth 100000 in
theorem q_clear (mu : Mu) (h : Rel mu) : Con yX8_clear cX8_clear 1 (some .int) 1 [vC 0] mu (fun r m1 => Con yX9_clear cX9_clear 2 (some .int) 0 [vC 94] m1 (fun r2 m2 => r2 = r ∧ Rel m2)) := by
  obtain ⟨nc, np, nt, h⟩ := h
  refine con_wk (c_X8_clear mu) (fun r m1 h1 => ?_)
  refine con_wk (c_X9_clear m1) (fun r2 m2 h2 => ?_)
  obtain ⟨rfl, e1⟩ := h1
  obtain ⟨rfl, e2⟩ := h2
  have hf : ∀ q, q ≠ 17 → q ≠ 94 → upF (upF mu 17 2 0) 94 5 0 q = mu q := fun q q1 q2 => by rw [upF_k q2, upF_k q1]
  refine ⟨by rw [e2, e1, upF_k (by decide)]; exact h.1.2.2.2.trans h.1.1.2.2.2.2.1.symm, nc, np, 0, ⟨?_, by rw [upF_i (by decide), upF_k (by decide)]; exact h.1.2.1, by rw [upF_i (by decide), upF_k (by decide)]; exact h.1.2.2.1, by rw [upF_s]; rfl⟩, h.r0.cg (fun q hq => hf q (by omega) (by omega)) (fun j _ _ j1 => by rw [upF_i j1, upF_k (by decide)])⟩
  refine SR.mk (h.1.1.ps.cg (hf _ (by omega) (by omega)) (fun j _ => by rw [hf 95 (by omega) (by omega)])) (h.1.1.pc.cg (fun q _ _ => hf q (by omega) (by omega)) (fun j _ => by rw [hf 96 (by omega) (by omega)])) (h.1.1.pp.cg (fun q _ _ => hf q (by omega) (by omega)) (fun j _ => by rw [hf 97 (by omega) (by omega)])) ⟨⟨by omega, ?_, ?_, fun i hi => by omega⟩, fun i hi => by omega⟩
  · rw [upF_k (show (1 + 16 : Nat) ≠ 94 by decide), show upF mu 17 2 0 (1 + 16) 1 = mu 17 1 from upF_i (by decide)]; exact h.1.1.pt.1.2.1
  · rw [upF_k (show (1 + 16 : Nat) ≠ 94 by decide)]; exact upF_s
