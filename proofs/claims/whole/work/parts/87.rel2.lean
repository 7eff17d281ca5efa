/-! ===== the calls that change sheets ===== -/
def R4a (mu : Mu) (a : Nat) : Prop := (mu 88 a = -1 ∧ mu 109 a = -1) ∨ ((∃ z, z ≤ 24 ∧ mu 88 a = nI z ∧ mu 110 a = nI z) ∧ mu 87 a = mu 109 a ∧ ¬ mu 109 a < 0 ∧ ∀ j, j < 24 → mu 111 (24 * a + j) = mu (90 + a) j)
theorem R4a.cg {mu m : Mu} {a : Nat} (h : R4a mu a) (h1 : m 88 a = mu 88 a) (h2 : m 109 a = mu 109 a) (h3 : m 110 a = mu 110 a) (h4 : m 87 a = mu 87 a) (h5 : ∀ j, j < 24 → m 111 (24 * a + j) = mu 111 (24 * a + j)) (h6 : ∀ j, j < 24 → m (90 + a) j = mu (90 + a) j) : R4a m a := by
  unfold R4a
  rw [h1, h2, h3, h4]
  rcases h with h | ⟨a1, a2, a3, a4⟩
  · exact Or.inl h
  · exact Or.inr ⟨a1, a2, a3, fun j hj => by rw [h5 j hj, h6 j hj]; exact a4 j hj⟩
/-- the sheets apart, the rest stays -/
theorem RelN.sh {mu m : Mu} {nc np nt : Nat} (h : RelN mu nc np nt) (f : ∀ q, (q < 53 ∨ (70 ≤ q ∧ q ≤ 86) ∨ (95 ≤ q ∧ q ≤ 99) ∨ q = 108) → m q = mu q) (f2 : ∀ j, (j < 16 ∨ j = 17 ∨ 30 < j) → m 94 j = mu 94 j) (h4 : R4 m) : RelN m nc np nt :=
  ⟨h.1.cg (fun q _ _ => f q (by omega)) (fun q _ _ => f q (by omega)) (fun j _ => f2 j (by omega)), h.2.1.cg (by rw [f 0 (by omega)]) (fun q _ _ => f q (by omega)) (f 108 (by omega)) (f2 36 (by omega)), h.2.2.1.cg (by rw [f 70 (by omega)]) (f 71 (by omega)) (by rw [f 72 (by omega)]) (by rw [f 78 (by omega)]) (f 99 (by omega)) (f2 8 (by omega)), h4, h.2.2.2.2.cg (fun j _ => f2 j (by omega))⟩
set_option maxRecDepth 100000 in
theorem q_sheet (mu : Mu) (h : Rel mu) (sh0 l n : Int32) : Con yX8_sheet cX8_sheet 4 (some .int) 2 [vC 0, vI sh0, vI l, vI n] mu (fun r m1 => Con yX9_sheet cX9_sheet 5 (some .int) 2 [vC 94, vI sh0, vI l, vI n] m1 (fun r2 m2 => r2 = r ∧ Rel m2)) := by
  obtain ⟨nc, np, nt, h⟩ := h
  refine con_wk (c_X8_sheet mu sh0 l n) (fun r m1 h1 => ?_)
  refine con_wk (c_X9_sheet m1 sh0 l n) (fun r2 m2 h2 => ?_)
  rcases h1 with ⟨g, e1, rfl⟩ | ⟨g, z, e1, rfl⟩ | ⟨g, z, e1, a, ha, ea, f1, u1, u2, u3⟩ <;> rcases h2 with ⟨g2, e4, rfl⟩ | ⟨g2, z2, e4, rfl⟩ | ⟨g2, z2, e4, b, hb, eb, f2, v1, v2, v3, v4⟩
  · exact ⟨by rw [e4, e1], .of h⟩
  · exact bf g2 g
  · exact bf g2 g
  · exact bf g g2
  · exact ⟨by rw [e4, e1], .of h⟩
  · exact absurd z z2
  · exact bf g g2
  · exact absurd z2 z
  · have eab := nI_in1 eb ea (by omega) (by omega)
    subst eab
    have gg := Bool.and_eq_true_iff.mp g
    have gl := inB_t (Bool.and_eq_true_iff.mp gg.1).2
    have gn : n ≤ 24 := of_decide_eq_true gg.2
    obtain ⟨w, hw, ew⟩ : ∃ w, w ≤ 24 ∧ n = nI w := by
      have c1 := clamp_toInt z
      have c2 := (i_le _ _).mp gn
      have c3 : (24 : Int32).toInt = 24 := rfl
      refine ⟨n.toNatClampNeg, by omega, ?_⟩
      rw [i_eq, nI_toInt (by omega)]
      omega
    refine ⟨by rw [e4, e1], nc, np, nt, h.sh (fun q hq => (f2 q (by omega) (by omega) (by omega)).trans (f1 q (by omega) (by omega) (by omega))) (fun j _ => by rw [f2 94 (by omega) (by omega) (by omega), f1 94 (by omega) (by omega) (by omega)]) (fun a ha2 => ?_)⟩
    have e87 : m2 87 = upd (mu 87) b l := by rw [f2 87 (by omega) (by omega) (by omega)]; exact u1
    have e88 : m2 88 = upd (mu 88) b n := by rw [f2 88 (by omega) (by omega) (by omega)]; exact u2
    have e109 : m2 109 = upd (mu 109) b l := by rw [v1, f1 109 (by omega) (by omega) (by omega)]
    have e110 : m2 110 = upd (mu 110) b n := by rw [v2, f1 110 (by omega) (by omega) (by omega)]
    by_cases e : a = b
    · subst e
      right
      rw [e87, e88, e109, e110, upd_s, upd_s, upd_s, upd_s]
      exact ⟨⟨w, hw, ew, ew⟩, rfl, gl.1, fun j hj => by rw [v4 j hj, f2 (90 + a) (by omega) (by omega) (by omega)]; exact (u3 j hj).symm⟩
    · exact R4a.cg (mu := mu) (h.2.2.2.1 a ha2) (by rw [e88, upd_n e]) (by rw [e109, upd_n e]) (by rw [e110, upd_n e]) (by rw [e87, upd_n e]) (fun j hj => by rw [v3 _ (by omega), f1 111 (by omega) (by omega) (by omega)]) (fun j hj => by rw [f2 (90 + a) (by omega) (by omega) (by omega), f1 (90 + a) (by omega) (by omega) (by omega)])
set_option maxRecDepth 100000 in
theorem q_drop (mu : Mu) (h : Rel mu) (sh0 : Int32) : Con yX8_drop cX8_drop 2 (some .int) 1 [vC 0, vI sh0] mu (fun r m1 => Con yX9_drop cX9_drop 2 (some .int) 2 [vC 94, vI sh0] m1 (fun r2 m2 => r2 = r ∧ Rel m2)) := by
  obtain ⟨nc, np, nt, h⟩ := h
  refine con_wk (c_X8_drop mu sh0) (fun r m1 h1 => ?_)
  refine con_wk (c_X9_drop m1 sh0) (fun r2 m2 h2 => ?_)
  have key : ∀ a, a < 4 → sh0 = nI a → inB sh0 0 3 = true := fun a ha ea => by
    rw [ea]
    show inB (nI a) (nI 0) (nI 3) = true
    unfold inB
    rw [decide_eq_true_eq, nI_ltI (by omega) (by omega), nI_ltI (by omega) (by omega)]
    omega
  rcases h1 with ⟨g, e1, rfl⟩ | ⟨a, ha, ea, h1⟩ <;> rcases h2 with ⟨g2, e4, rfl⟩ | ⟨b, hb, eb, h2⟩
  · exact ⟨by rw [e4, e1], .of h⟩
  · exact bf (key b hb eb) g
  · exact bf (key a ha ea) g2
  · have eab := nI_in1 eb ea (by omega) (by omega)
    subst eab
    have e109 : m1 109 = mu 109 ∧ m1 110 = mu 110 := by
      rcases h1 with ⟨-, -, rfl⟩ | ⟨-, -, rfl⟩
      · exact ⟨rfl, rfl⟩
      · exact ⟨upF_k (by decide), upF_k (by decide)⟩
    rw [e109.1, e109.2] at h2
    rcases h.2.2.2.1 b hb with ⟨q1, q2⟩ | ⟨⟨z, q1, q2, q3⟩, q4, q5, q6⟩
    · rw [q1] at h1
      rw [q2] at h2
      rcases h1 with ⟨-, e1, rfl⟩ | ⟨x, -⟩
      · rcases h2 with ⟨-, e4, rfl⟩ | ⟨x, -⟩
        · exact ⟨by rw [e4, e1], .of h⟩
        · exact absurd (by decide) x
      · exact absurd rfl x
    · rcases h1 with ⟨x, -⟩ | ⟨-, e1, rfl⟩
      · rw [q2] at x
        exact absurd x (nI_nem1 (by omega))
      · rcases h2 with ⟨x, -⟩ | ⟨-, e4, rfl⟩
        · exact absurd x q5
        · refine ⟨by rw [e4, e1, q2, q3], nc, np, nt, h.sh (fun q hq => by rw [upF_k (by omega), upF_k (by omega)]) (fun j _ => by rw [upF_k (by decide), upF_k (by decide)]) (fun a ha2 => ?_)⟩
          by_cases e : a = b
          · subst e
            left
            exact ⟨by rw [upF_k (by decide), upF_s], upF_s⟩
          · exact R4a.cg (mu := mu) (h.2.2.2.1 a ha2) (by rw [upF_k (by decide), upF_i e]) (by rw [upF_i e, upF_k (by decide)]) (by rw [upF_k (by decide), upF_k (by decide)]) (by rw [upF_k (by decide), upF_k (by decide)]) (fun j hj => by rw [upF_k (by decide), upF_k (by decide)]) (fun j hj => by rw [upF_k (by omega), upF_k (by omega)])
theorem refV_0 {mu : Mu} {a : Nat} {l i n : Int32} (h : refV mu a l i n = 0) : ¬ mu 88 a = -1 ∧ mu 87 a = l ∧ fitB (mu 88 a) i n = true := by
  unfold refV at h
  split at h
  · exact absurd h (by decide)
  · split at h
    · exact absurd h (by decide)
    · rename_i a1 a2
      split at h
      · rename_i a3
        exact ⟨a1, Decidable.not_not.mp a2, a3⟩
      · exact absurd h (by decide)
theorem refS_c {mu m : Mu} (h1 : m 109 = mu 109) (h2 : m 110 = mu 110) : refS m = refS mu := by
  funext a l i n
  unfold refS
  rw [h1, h2]
set_option maxRecDepth 100000 in
theorem q_item (mu : Mu) (h : Rel mu) (sh0 l i v : Int32) : Con yX8_item cX8_item 6 (some .int) 2 [vC 0, vI sh0, vI l, vI i, vI v] mu (fun r m1 => Con yX9_item cX9_item 6 (some .int) 2 [vC 94, vI sh0, vI l, vI i, vI v] m1 (fun r2 m2 => r2 = r ∧ Rel m2)) := by
  obtain ⟨nc, np, nt, h⟩ := h
  refine con_wk (c_X8_item mu h.hok sh0 l i v) (fun r m1 h1 => ?_)
  have e109 : m1 109 = mu 109 ∧ m1 110 = mu 110 := by
    rcases h1 with ⟨-, -, rfl⟩ | ⟨-, a, ha, -, ⟨-, -, rfl⟩ | ⟨-, -, rfl⟩⟩
    · exact ⟨rfl, rfl⟩
    · exact ⟨rfl, rfl⟩
    · exact ⟨upF_k (by omega), upF_k (by omega)⟩
  refine con_wk (c_X9_item m1 (by unfold RHs; rw [e109.1, e109.2]; exact h.2.2.2.1.rhs) sh0 l i v) (fun r2 m2 h2 => ?_)
  rw [refS_c e109.1 e109.2] at h2
  rcases h1 with ⟨g, e1, rfl⟩ | ⟨g, a, ha, ea, h1⟩ <;> rcases h2 with ⟨g2, e4, rfl⟩ | ⟨g2, b, hb, eb, h2⟩
  · exact ⟨by rw [e4, e1], .of h⟩
  · exact bf g2 g
  · exact bf g g2
  · have eab := nI_in1 eb ea (by omega) (by omega)
    subst eab
    rw [ref_eq h.2.2.2.1 hb] at h2
    rcases h1 with ⟨x, e1, rfl⟩ | ⟨x, e1, rfl⟩ <;> rcases h2 with ⟨y, e4, rfl⟩ | ⟨y, e4, I, ei, hI, rfl⟩
    · exact ⟨by rw [e4, e1], .of h⟩
    · exact absurd y x
    · exact absurd x y
    · have e87 := (refV_0 x).2.1
      subst ei
      rw [nI_clamp (by omega), e87]
      refine ⟨by rw [e4, e1], nc, np, nt, h.sh (fun q hq => by rw [upF_k (by omega), upF_k (by omega)]) (fun j _ => by rw [upF_k (by decide), upF_k (by omega)]) (fun a ha2 => ?_)⟩
      by_cases e : a = b
      · subst e
        rcases h.2.2.2.1 a ha2 with q | ⟨q1, q2, q3, q4⟩
        · exact absurd q.1 (refV_0 x).1
        · right
          rw [upF_k (by decide), upF_k (by omega), upF_k (by decide), upF_k (by omega), upF_k (by decide), upF_k (by omega), upF_k (by decide), upF_k (by omega)]
          refine ⟨q1, q2, q3, fun j hj => ?_⟩
          rw [upF_k (show 90 + a ≠ 111 by omega)]
          by_cases ej : j = I
          · subst ej
            rw [upF_s, upF_s]
          · rw [upF_i (by omega), upF_i ej, upF_k (by omega)]
            exact q4 j hj
      · exact R4a.cg (mu := mu) (h.2.2.2.1 a ha2) (by rw [upF_k (by decide), upF_k (by omega)]) (by rw [upF_k (by decide), upF_k (by omega)]) (by rw [upF_k (by decide), upF_k (by omega)]) (by rw [upF_k (by decide), upF_k (by omega)]) (fun j hj => by rw [upF_i (by omega), upF_k (by omega)]) (fun j hj => by rw [upF_k (by omega), upF_k (by omega)])
theorem tvT_c2 {mu m : Mu} (hS : SOK mu 1) (f : ∀ q, q < 53 → m q = mu q) : tvT m = tvT mu := by
  funext n j
  unfold tvT
  rw [tv_cg hS.t9 (fun q _ _ => f q (by omega)), f 2 (by omega), tget_cg tab9 hS.t9 (fun q _ _ => f q (by omega)), tget_cg tab9 hS.t9 (fun q _ _ => f q (by omega))]
set_option maxRecDepth 100000 in
theorem q_film (mu : Mu) (h : Rel mu) (sh0 l i n : Int32) : Con yX8_film cX8_film 7 (some .int) 5 [vC 0, vI sh0, vI l, vI i, vI n] mu (fun r m1 => Con yX9_film cX9_film 7 (some .int) 3 [vC 94, vI sh0, vI l, vI i, vI n] m1 (fun r2 m2 => r2 = r ∧ Rel m2)) := by
  obtain ⟨nc, np, nt, h⟩ := h
  refine con_wk (c_X8_film mu h.sok h.hok sh0 l i n) (fun r m1 h1 => ?_)
  have hf : ∀ q, q < 53 ∨ (54 < q ∧ q < 90) ∨ 93 < q → m1 q = mu q := fun q hq => by
    rcases h1 with ⟨-, -, rfl⟩ | ⟨-, a, N, ha, -, -, -, -, ⟨-, -, rfl⟩ | ⟨-, -, I, -, -, f, -⟩⟩
    · rfl
    · rfl
    · exact f q (by omega) (by omega) (by omega)
  have e109 : m1 109 = mu 109 ∧ m1 110 = mu 110 := ⟨hf 109 (by omega), hf 110 (by omega)⟩
  have hR1 : R1 m1 nc np nt := h.1.cg (fun q _ _ => hf q (by omega)) (fun q _ _ => hf q (by omega)) (fun j _ => by rw [hf 94 (by omega)])
  refine con_wk (c_X9_film m1 nc np (hR1.rb (h.2.2.2.2.cg (fun j _ => by rw [hf 94 (by omega)]))) (by unfold RHs; rw [e109.1, e109.2]; exact h.2.2.2.1.rhs) sh0 l i n) (fun r2 m2 h2 => ?_)
  rw [refS_c e109.1 e109.2] at h2
  rcases h1 with ⟨g, e1, rfl⟩ | ⟨g, a, N, ha, ea, en, n1, n2, h1⟩ <;> rcases h2 with ⟨g2, e4, rfl⟩ | ⟨g2, b, N2, hb, eb, en2, n3, n4, h2⟩
  · exact ⟨by rw [e4, e1], .of h⟩
  · exact bf g2 g
  · exact bf g g2
  · have eab := nI_in1 eb ea (by omega) (by omega)
    have eNN := nI_in1 en2 en (by omega) (by omega)
    subst eab
    subst eNN
    rw [ref_eq h.2.2.2.1 hb] at h2
    rcases h1 with ⟨x, e1, rfl⟩ | ⟨x, e1, I, ei, hI, F⟩ <;> rcases h2 with ⟨y, e4, rfl⟩ | ⟨y, e4, J, ej, hJ, G⟩
    · exact ⟨by rw [e4, e1], .of h⟩
    · exact absurd y x
    · exact absurd x y
    · have eIJ := nI_in1 ej ei (by omega) (by omega)
      subst eIJ
      have e87 := (refV_0 x).2.1
      obtain ⟨f1, f2, f3⟩ := F
      obtain ⟨g1, g3, g4, g5⟩ := G
      rw [tvT_c2 h.sok (fun q hq => hf q (by omega))] at g4
      rw [e87] at f2
      refine ⟨by rw [e4, e1], nc, np, nt, h.sh (fun q hq => (g1 q (by omega)).trans (hf q (by omega))) (fun j hj => (g3 j (by omega)).trans (by rw [hf 94 (by omega)])) (fun a ha2 => ?_)⟩
      by_cases e : a = b
      · subst e
        rcases h.2.2.2.1 a ha2 with q | ⟨q1, q2, q3, q4⟩
        · exact absurd q.1 (refV_0 x).1
        · right
          rw [g1 88 (by omega), hf 88 (by omega), g1 110 (by omega), hf 110 (by omega), g1 87 (by omega), hf 87 (by omega), g1 109 (by omega), hf 109 (by omega)]
          refine ⟨q1, q2, q3, fun j hj => ?_⟩
          rw [g1 (90 + a) (by omega)]
          by_cases ej : j < J ∨ J + 2 * N2 ≤ j
          · rw [g5 _ (by omega), f3 j ej, hf 111 (by omega)]
            exact q4 j hj
          · have e9 : ∃ i, i < N2 ∧ (j = J + 2 * i ∨ j = J + 2 * i + 1) := ⟨(j - J) / 2, by omega, by omega⟩
            obtain ⟨i9, hi9, e9 | e9⟩ := e9
            · rw [e9, (f2 i9 hi9).1, show 24 * a + (J + 2 * i9) = 24 * a + J + 2 * i9 by omega]
              exact (g4 i9 hi9).1
            · rw [e9, (f2 i9 hi9).2, show 24 * a + (J + 2 * i9 + 1) = 24 * a + J + 2 * i9 + 1 by omega]
              exact (g4 i9 hi9).2
      · exact R4a.cg (mu := mu) (h.2.2.2.1 a ha2) (by rw [g1 88 (by omega), hf 88 (by omega)]) (by rw [g1 109 (by omega), hf 109 (by omega)]) (by rw [g1 110 (by omega), hf 110 (by omega)]) (by rw [g1 87 (by omega), hf 87 (by omega)]) (fun j hj => by rw [g5 _ (by omega), hf 111 (by omega)]) (fun j hj => by rw [g1 (90 + a) (by omega), f1 (90 + a) (by omega) (by omega) (by omega)])
set_option maxRecDepth 100000 in
theorem q_copy (mu : Mu) (h : Rel mu) (fr0 i to0 j n : Int32) : Con yX8_copy cX8_copy 6 (some .int) 1 [vC 0, vI fr0, vI i, vI to0, vI j, vI n] mu (fun r m1 => Con yX9_copy cX9_copy 7 (some .int) 2 [vC 94, vI fr0, vI i, vI to0, vI j, vI n] m1 (fun r2 m2 => r2 = r ∧ Rel m2)) := by
  obtain ⟨nc, np, nt, h⟩ := h
  refine con_wk (c_X8_copy mu h.hok fr0 i to0 j n) (fun r m1 h1 => ?_)
  have hf : ∀ q, q < 90 ∨ 93 < q → m1 q = mu q := fun q hq => by
    rcases h1 with ⟨-, -, rfl⟩ | ⟨-, a, b, ha, hb, -, -, ⟨-, -, rfl⟩ | ⟨-, -, ⟨-, -, rfl⟩ | ⟨-, ⟨-, -, rfl⟩ | ⟨-, -, rfl⟩⟩⟩⟩
    · rfl
    · rfl
    · rfl
    · rfl
    · exact upM_n (by omega)
  refine con_wk (c_X9_copy m1 (by unfold RHs; rw [hf 109 (by omega), hf 110 (by omega)]; exact h.2.2.2.1.rhs) fr0 i to0 j n) (fun r2 m2 h2 => ?_)
  rw [hf 109 (by omega), hf 110 (by omega), hf 111 (by omega)] at h2
  have hneg : ∀ a, a < 4 → (mu 109 a < 0 ↔ mu 88 a = -1) := fun a ha => by
    rcases h.2.2.2.1 a ha with q | ⟨⟨z, q1, q2, q3⟩, q4, q5, q6⟩
    · rw [q.1, q.2]
      exact ⟨fun _ => rfl, fun _ => by decide⟩
    · rw [q2]
      exact ⟨fun x => absurd x q5, fun x => absurd x (nI_nem1 (by omega))⟩
  rcases h1 with ⟨g, e1, rfl⟩ | ⟨g, a, b, ha, hb, ea, eb, h1⟩ <;> rcases h2 with ⟨g2, e4, rfl⟩ | ⟨g2, a2, b2, ha2, hb2, ea2, eb2, h2⟩
  · exact ⟨by rw [e4, e1], .of h⟩
  · exact bf g2 g
  · exact bf g g2
  · have e8 := nI_in1 ea2 ea (by omega) (by omega)
    have e9 := nI_in1 eb2 eb (by omega) (by omega)
    subst e8
    subst e9
    rw [hneg a2 ha2, hneg b2 hb2] at h2
    rcases h1 with ⟨x, e1, rfl⟩ | ⟨x1, x2, h1⟩ <;> rcases h2 with ⟨y, e4, rfl⟩ | ⟨y1, y2, h2⟩
    · exact ⟨by rw [e4, e1], .of h⟩
    · exact absurd x (fun x => x.elim y1 y2)
    · exact absurd y (fun x => x.elim x1 x2)
    · obtain ⟨⟨z, q1, q2, q3⟩, q4, q5, q6⟩ := (h.2.2.2.1 a2 ha2).resolve_left (fun q => x1 q.1)
      obtain ⟨⟨z', p1, p2, p3⟩, p4, p5, p6⟩ := (h.2.2.2.1 b2 hb2).resolve_left (fun q => x2 q.1)
      rw [← q4, ← p4, q3.trans q2.symm, p3.trans p2.symm] at h2
      rcases h1 with ⟨x3, e1, rfl⟩ | ⟨x3, h1⟩ <;> rcases h2 with ⟨y3, e4, rfl⟩ | ⟨y3, h2⟩
      · exact ⟨by rw [e4, e1], .of h⟩
      · exact absurd y3 x3
      · exact absurd x3 y3
      · rcases h1 with ⟨x4, e1, rfl⟩ | ⟨x4, e1, rfl⟩ <;> rcases h2 with ⟨y4, e4, rfl⟩ | ⟨y4, e4, I, J, N, ei, ej, en, hI, hJ, f2, c1, c2⟩
        · exact ⟨by rw [e4, e1], .of h⟩
        · exact bf y4 x4
        · exact bf x4 y4
        · subst ei ej en
          rw [nI_clamp (by omega), nI_clamp (by omega), nI_clamp (by omega)] at f2
          refine ⟨by rw [e4, e1], nc, np, nt, h.sh (fun q hq => (f2 q (by omega) (by omega)).trans (upM_n (by omega))) (fun j _ => by rw [f2 94 (by omega) (by omega), upM_n (by omega)]) (fun a ha3 => ?_)⟩
          have ecell : ∀ q, q < 90 ∨ (93 < q ∧ q < 111) → m2 q = mu q := fun q hq => (f2 q (by omega) (by omega)).trans (upM_n (by omega))
          by_cases e : a = b2
          · subst e
            right
            rw [ecell 88 (by omega), ecell 110 (by omega), ecell 87 (by omega), ecell 109 (by omega)]
            refine ⟨⟨z', p1, p2, p3⟩, p4, p5, fun t ht => ?_⟩
            rw [f2 (90 + a) (by omega) (by omega), upM_s]
            unfold va_cpy
            by_cases et : J ≤ t ∧ t < J + N
            · rw [if_pos et, show 24 * a + t = 24 * a + J + (t - J) by omega, c1 (t - J) (by omega), show 24 * a2 + I + (t - J) = 24 * a2 + (I + (t - J)) by omega]
              exact q6 _ (by omega)
            · rw [if_neg et, c2 _ (by omega)]
              exact p6 t ht
          · exact R4a.cg (mu := mu) (h.2.2.2.1 a ha3) (by rw [ecell 88 (by omega)]) (by rw [ecell 109 (by omega)]) (by rw [ecell 110 (by omega)]) (by rw [ecell 87 (by omega)]) (fun t ht => c2 _ (by omega)) (fun t ht => by rw [f2 (90 + a) (by omega) (by omega), upM_n (by omega)])
