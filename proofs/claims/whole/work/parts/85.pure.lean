/-! ===== the calls that only read, side by side ===== -/
theorem Rel.of {m : Mu} {nc np nt : Nat} (h : RelN m nc np nt) : Rel m := ⟨nc, np, nt, h⟩
theorem bf {p : Prop} {b : Bool} (h1 : b = true) (h2 : b = false) : p := by rw [h1] at h2; cases h2
theorem nI_in1 {a b : Nat} {x : Int32} (h1 : x = nI a) (h2 : x = nI b) (ha : a < 2 ^ 31) (hb : b < 2 ^ 31) : a = b := (nI_eq ha hb).mp (h1.symm.trans h2)
set_option maxRecDepth 100000 in
theorem q_at (mu : Mu) (h : Rel mu) (stp what : Int32) : Con yX8_at cX8_at 3 (some .int) 5 [vC 0, vI stp, vI what] mu (fun r m1 => Con yX9_at cX9_at 3 (some .int) 3 [vC 94, vI stp, vI what] m1 (fun r2 m2 => r2 = r ∧ Rel m2)) := by
  obtain ⟨nc, np, nt, h⟩ := h
  refine con_wk (c_X8_at mu h.sok stp what) (fun r m1 h1 => ?_)
  have hf : fC mu m1 := by
    rcases h1 with ⟨-, f, -⟩ | ⟨-, -, rfl⟩
    · exact f.c
    · exact fC.rf _
  have h' := h.c hf
  refine con_wk (c_X9_at m1 nc np h'.rb stp what) (fun r2 m2 h2 => ?_)
  rw [tvT_c h.sok hf] at h2
  rcases h1 with ⟨g, -, k, e1, k1, e3⟩ | ⟨g, e1, -⟩ <;> rcases h2 with ⟨g2, f2, k2, e4, k3, e5⟩ | ⟨g2, e4, e5⟩
  · exact ⟨by rw [e5, e3, nI_in1 e4 e1 (by omega) (by omega)], .of (h'.r f2.m)⟩
  · exact bf g g2
  · exact bf g2 g
  · exact ⟨by rw [e4, e1], by rw [e5]; exact .of h'⟩
set_option maxRecDepth 100000 in
theorem q_end (mu : Mu) (h : Rel mu) (what : Int32) : Con yX8_end cX8_end 3 (some .int) 5 [vC 0, vI what] mu (fun r m1 => Con yX9_end cX9_end 2 (some .int) 3 [vC 94, vI what] m1 (fun r2 m2 => r2 = r ∧ Rel m2)) := by
  obtain ⟨nc, np, nt, h⟩ := h
  refine con_wk (c_X8_end mu h.sok what) (fun r m1 h1 => ?_)
  have hf : fC mu m1 := by
    rcases h1 with ⟨-, f, -⟩ | ⟨-, -, rfl⟩
    · exact f.c
    · exact fC.rf _
  have h' := h.c hf
  refine con_wk (c_X9_end m1 nc np h'.rb what) (fun r2 m2 h2 => ?_)
  rw [tvT_c h.sok hf] at h2
  rcases h1 with ⟨g, -, e1⟩ | ⟨g, e1, -⟩ <;> rcases h2 with ⟨g2, f2, e5⟩ | ⟨g2, e4, e5⟩
  · exact ⟨by rw [e5, e1], .of (h'.r f2.m)⟩
  · exact bf g g2
  · exact bf g2 g
  · exact ⟨by rw [e4, e1], by rw [e5]; exact .of h'⟩
theorem stR_eq {mu : Mu} {b : Nat} (h : ∀ i, i < b → mu 97 (3 * i) = mu (11 + i) 0) : stR mu b = stS mu b := by
  induction b with
  | zero => rfl
  | succ b ih =>
    show stR mu b + mu 97 (3 * b) = stS mu b + mu (11 + b) 0
    rw [ih (fun i hi => h i (by omega)), h b (by omega)]
set_option maxRecDepth 100000 in
theorem q_count (mu : Mu) (h : Rel mu) (what : Int32) : Con yX8_count cX8_count 2 (some .int) 2 [vC 0, vI what] mu (fun r m1 => Con yX9_count cX9_count 4 (some .int) 0 [vC 94, vI what] m1 (fun r2 m2 => r2 = r ∧ Rel m2)) := by
  obtain ⟨nc, np, nt, h⟩ := h
  refine con_wk (c_X8_count mu h.sok what np h.1.1.2.2.2.1.1 h.1.1.2.2.2.1.2.1) (fun r m1 h1 => ?_)
  have e0 : m1 = mu := h1.1
  subst e0
  have h' := h
  refine con_wk (c_X9_count m1 np h'.1.1.2.2.2.1.2.1 h'.1.2.2.1 what) (fun r2 m2 h2 => ?_)
  obtain ⟨rfl, e2⟩ := h2
  obtain ⟨-, e1⟩ := h1
  refine ⟨?_, .of h'⟩
  rw [e2, e1, h'.1.2.1, h'.1.1.2.2.1.1, h'.1.2.2.1, h'.1.1.2.2.2.1.1, h'.1.2.2.2, h'.1.1.2.2.2.2.1, stR_eq (fun i hi => h'.1.1.2.2.2.1.2.2 i hi 0 (by omega))]
set_option maxRecDepth 100000 in
theorem q_told (mu : Mu) (h : Rel mu) (a what : Int32) : Con yX8_told cX8_told 3 (some .int) 1 [vC 0, vI a, vI what] mu (fun r m1 => Con yX9_told cX9_told 3 (some .int) 2 [vC 94, vI a, vI what] m1 (fun r2 m2 => r2 = r ∧ Rel m2)) := by
  obtain ⟨nc, np, nt, h⟩ := h
  refine con_wk (c_X8_told mu h.sok a what) (fun r m1 h1 => ?_)
  have e0 : m1 = mu := h1.1
  subst e0
  have h' := h
  refine con_wk (c_X9_told m1 nc h'.1.1.2.2.1.2.1 h'.1.2.1 a what) (fun r2 m2 h2 => ?_)
  obtain ⟨rfl, g1, g2⟩ := h2
  obtain ⟨-, e1⟩ := h1
  refine ⟨?_, .of h'⟩
  have eh : hasB m2 3 a = hsB (nI nc) a := by show decide (¬ a < 0 ∧ ¬ m2 3 2 ≤ a) = decide (¬ a < 0 ∧ ¬ nI nc ≤ a); rw [h'.1.1.2.2.1.1]
  rw [eh] at e1
  cases hg : (hsB (nI nc) a && inB what 0 4)
  · rw [hg, if_neg (by decide)] at e1; rw [g2 hg, e1]
  · rw [hg, if_pos rfl] at e1
    obtain ⟨i, j, ea, hi, ew, hj, er⟩ := g1 hg
    subst ea ew
    rw [er, e1, tget_in h'.1.1.2.2.1.1 h'.sok.t3.1 hi hj (by have := h'.1.1.2.2.1.2.1; omega) (by omega)]
    exact h'.1.1.2.2.1.2.2 i hi j hj
set_option maxRecDepth 100000 in
theorem q_pull (mu : Mu) (h : Rel mu) (a what : Int32) : Con yX8_pull cX8_pull 3 (some .int) 1 [vC 0, vI a, vI what] mu (fun r m1 => Con yX9_pull cX9_pull 3 (some .int) 1 [vC 94, vI a, vI what] m1 (fun r2 m2 => r2 = r ∧ Rel m2)) := by
  obtain ⟨nc, np, nt, h⟩ := h
  refine con_wk (c_X8_pull mu h.sok a what) (fun r m1 h1 => ?_)
  have e0 : m1 = mu := h1.1
  subst e0
  have h' := h
  refine con_wk (c_X9_pull m1 np h'.1.1.2.2.2.1.2.1 h'.1.2.2.1 a what) (fun r2 m2 h2 => ?_)
  obtain ⟨rfl, g1, g2⟩ := h2
  obtain ⟨-, e1⟩ := h1
  refine ⟨?_, .of h'⟩
  have eh : hasB m2 9 a = hsB (nI np) a := by show decide (¬ a < 0 ∧ ¬ m2 9 2 ≤ a) = decide (¬ a < 0 ∧ ¬ nI np ≤ a); rw [h'.1.1.2.2.2.1.1]
  rw [eh] at e1
  cases hg : (hsB (nI np) a && inB what 0 2)
  · rw [hg, if_neg (by decide)] at e1; rw [g2 hg, e1]
  · rw [hg, if_pos rfl] at e1
    obtain ⟨i, j, ea, hi, ew, hj, er⟩ := g1 hg
    subst ea ew
    rw [er, e1, tget_in h'.1.1.2.2.2.1.1 h'.sok.t9.1 hi hj (by have := h'.1.1.2.2.2.1.2.1; omega) (by omega)]
    exact h'.1.1.2.2.2.1.2.2 i hi j hj
set_option maxRecDepth 100000 in
theorem q_row (mu : Mu) (h : Rel mu) (tr n : Int32) : Con yX8_row cX8_row 5 (some .int) 1 [vC 0, vI tr, vI n] mu (fun r m1 => Con yX9_row cX9_row 5 (some .int) 1 [vC 94, vI tr, vI n] m1 (fun r2 m2 => r2 = r ∧ Rel m2)) := by
  obtain ⟨nc, np, nt, h⟩ := h
  refine con_wk (c_X8_row mu h.sok tr n) (fun r m1 h1 => ?_)
  have e0 : m1 = mu := h1.1
  subst e0
  have h' := h
  refine con_wk (c_X9_row m1 nt h'.1.1.2.2.2.2.2.1 h'.1.2.2.2 tr n) (fun r2 m2 h2 => ?_)
  obtain ⟨rfl, h2⟩ := h2
  obtain ⟨-, h1⟩ := h1
  refine ⟨?_, .of h'⟩
  have eh : hasB m2 17 tr = hsB (nI nt) tr := by show decide (¬ tr < 0 ∧ ¬ m2 17 2 ≤ tr) = decide (¬ tr < 0 ∧ ¬ nI nt ≤ tr); rw [h'.1.1.2.2.2.2.1]
  rw [eh] at h1
  rcases h1 with ⟨g, e1⟩ | ⟨g, N, e1, n1, e3⟩ <;> rcases h2 with ⟨g2, e4⟩ | ⟨g2, i, N2, e4, hi, e5, n2, e6⟩
  · rw [e4, e1]
  · exact bf g2 g
  · exact bf g g2
  · rw [e6, e3, nI_in1 e5 e1 (by omega) (by omega), e4, show tget m2 17 (nI i) 0 = m2 (19 + i) 0 from tget_in (j := 0) h'.1.1.2.2.2.2.1 h'.sok.t17.1 hi (by omega) (by have := h'.1.1.2.2.2.2.2.1; omega) (by omega)]
    rw [(h'.1.1.2.2.2.2.2.2 i hi).1]
theorem sz_one {B : Nat → Bool} {l l2 : Nat → Nat} (h : Lab (fun j => B j = true) l) (h2 : Lab (fun j => B j = true) l2) (p : Nat) : sz B l p = sz B l2 p := by
  unfold sz
  have e : (fun j => B j && l j == p) = (fun j => B j && l2 j == p) := by
    funext j
    cases hb : B j
    · rfl
    · rw [h.one h2 hb]
  rw [e]
theorem cc_one {B : Nat → Bool} {l l2 : Nat → Nat} (h : Lab (fun j => B j = true) l) (h2 : Lab (fun j => B j = true) l2) : ∀ n, ccN B l n = ccN B l2 n ∧ mmN B l n = mmN B l2 n
  | 0 => ⟨rfl, rfl⟩
  | n + 1 => by
    obtain ⟨a, b⟩ := cc_one h h2 n
    refine ⟨?_, ?_⟩
    · show ccN B l n + (if 0 < sz B l n then 1 else 0) = ccN B l2 n + (if 0 < sz B l2 n then 1 else 0)
      rw [a, sz_one h h2]
    · show (if mmN B l n < sz B l n then sz B l n else mmN B l n) = (if mmN B l2 n < sz B l2 n then sz B l2 n else mmN B l2 n)
      rw [b, sz_one h h2]
set_option maxRecDepth 100000 in
theorem q_ends (mu : Mu) (h : Rel mu) (u v : Int32) : Con yX8_ends cX8_ends 4 (some .int) 6 [vC 0, vI u, vI v] mu (fun r m1 => Con yX9_ends cX9_ends 3 (some .int) 4 [vC 94, vI u, vI v] m1 (fun r2 m2 => r2 = r ∧ Rel m2)) := by
  obtain ⟨nc, np, nt, h⟩ := h
  refine con_wk (c_X8_ends mu h.sok u v) (fun r m1 h1 => ?_)
  have hf : fC mu m1 := by
    rcases h1 with ⟨-, -, rfl⟩ | ⟨-, -, -, rfl⟩ | ⟨-, -, f, -⟩
    · exact fC.rf _
    · exact fC.rf _
    · exact f.c
  have h' := h.c hf
  refine con_wk (c_X9_ends m1 nc np h'.rb u v) (fun r2 m2 h2 => ?_)
  rw [tv_c h.sok hf, hf 2 (by omega)] at h2
  have e92 : m1 9 2 = mu 9 2 := by rw [hf 9 (by omega)]
  rw [e92] at h2
  rcases h1 with ⟨g, e1, -⟩ | ⟨g, z, e1, -⟩ | ⟨g, z, -, -, -, e1⟩ <;> rcases h2 with ⟨g2, e4, e5⟩ | ⟨g2, z2, e4, e5⟩ | ⟨g2, z2, f2, e5⟩
  · exact ⟨by rw [e4, e1], by rw [e5]; exact .of h'⟩
  · exact bf g2 g
  · exact bf g2 g
  · exact bf g g2
  · exact ⟨by rw [e4, e1], by rw [e5]; exact .of h'⟩
  · exact absurd z z2
  · exact bf g g2
  · exact absurd z2 z
  · exact ⟨by rw [e5, e1]; rfl, .of (h'.r f2.m)⟩
set_option maxRecDepth 100000 in
theorem q_odds (mu : Mu) (h : Rel mu) (cup : Int32) : Con yX8_odds cX8_odds 2 (some .int) 7 [vC 0, vI cup] mu (fun r m1 => Con yX9_odds cX9_odds 2 (some .int) 5 [vC 94, vI cup] m1 (fun r2 m2 => r2 = r ∧ Rel m2)) := by
  obtain ⟨nc, np, nt, h⟩ := h
  refine con_wk (c_X8_odds mu h.sok cup) (fun r m1 h1 => ?_)
  have hf : fC mu m1 := by
    rcases h1 with ⟨-, -, rfl⟩ | ⟨-, -, -, rfl⟩ | ⟨-, -, f, -⟩
    · exact fC.rf _
    · exact fC.rf _
    · exact f.c
  have h' := h.c hf
  refine con_wk (c_X9_odds m1 nc np h'.rb cup) (fun r2 m2 h2 => ?_)
  rw [odS_c h.sok hf, hf 2 (by omega)] at h2
  have e92 : m1 9 2 = mu 9 2 := by rw [hf 9 (by omega)]
  rw [e92] at h2
  rw [← hs_eq (m := mu) h] at h2
  rcases h1 with ⟨g, e1, -⟩ | ⟨g, z, e1, -⟩ | ⟨g, z, -, e1⟩ <;> rcases h2 with ⟨g2, e4, e5⟩ | ⟨g2, z2, e4, e5⟩ | ⟨g2, z2, f2, e5⟩
  · exact ⟨by rw [e4, e1], by rw [e5]; exact .of h'⟩
  · exact bf g2 g
  · exact bf g2 g
  · exact bf g g2
  · exact ⟨by rw [e4, e1], by rw [e5]; exact .of h'⟩
  · exact absurd z z2
  · exact bf g g2
  · exact absurd z2 z
  · exact ⟨by rw [e5, e1], .of (h'.r f2.m)⟩
set_option maxRecDepth 100000 in
theorem q_cord (mu : Mu) (h : Rel mu) (cup what : Int32) : Con yX8_cord cX8_cord 7 (some .int) 7 [vC 0, vI cup, vI what] mu (fun r m1 => Con yX9_cord cX9_cord 8 (some .int) 5 [vC 94, vI cup, vI what] m1 (fun r2 m2 => r2 = r ∧ Rel m2)) := by
  obtain ⟨nc, np, nt, h⟩ := h
  refine con_wk (c_X8_cord mu h.sok cup what) (fun r m1 h1 => ?_)
  have hf : fC mu m1 := by
    rcases h1 with ⟨-, -, rfl⟩ | ⟨-, -, -, rfl⟩ | ⟨-, -, f, -⟩
    · exact fC.rf _
    · exact fC.rf _
    · exact f.c
  have h' := h.c hf
  refine con_wk (c_X9_cord m1 nc np h'.rb cup what) (fun r2 m2 h2 => ?_)
  rw [coF_c h.sok hf] at h2
  have e92 : m1 9 2 = mu 9 2 := by rw [hf 9 (by omega)]
  rw [e92] at h2
  rw [← hs_eq (m := mu) h] at h2
  rcases h1 with ⟨g, e1, -⟩ | ⟨g, z, e1, -⟩ | ⟨g, z, -, e1⟩ <;> rcases h2 with ⟨g2, e4, e5⟩ | ⟨g2, z2, e4, e5⟩ | ⟨g2, z2, f2, e5⟩
  · exact ⟨by rw [e4, e1], by rw [e5]; exact .of h'⟩
  · exact bf g2 g
  · exact bf g2 g
  · exact bf g g2
  · exact ⟨by rw [e4, e1], by rw [e5]; exact .of h'⟩
  · exact absurd z z2
  · exact bf g g2
  · exact absurd z2 z
  · exact ⟨by rw [e5, e1], .of (h'.r f2.m)⟩
set_option maxRecDepth 100000 in
theorem q_mended (mu : Mu) (h : Rel mu) (cup lf : Int32) : Con yX8_mended cX8_mended 8 (some .int) 6 [vC 0, vI cup, vI lf] mu (fun r m1 => Con yX9_mended cX9_mended 5 (some .int) 5 [vC 94, vI cup, vI lf] m1 (fun r2 m2 => r2 = r ∧ Rel m2)) := by
  obtain ⟨nc, np, nt, h⟩ := h
  refine con_wk (c_X8_mended mu h.sok cup lf) (fun r m1 h1 => ?_)
  have hf : fC mu m1 := by
    rcases h1 with ⟨-, -, rfl⟩ | ⟨-, -, -, rfl⟩ | ⟨-, -, f, -⟩
    · exact fC.rf _
    · exact fC.rf _
    · exact f.c
  have h' := h.c hf
  refine con_wk (c_X9_mended m1 nc np h'.rb cup lf) (fun r2 m2 h2 => ?_)
  have eM := fun c => mdS_c h.sok hf c lf 90
  simp only [eM] at h2
  have e92 : m1 9 2 = mu 9 2 := by rw [hf 9 (by omega)]
  rw [e92] at h2
  rw [← hs_eq (m := mu) h] at h2
  rcases h1 with ⟨g, e1, -⟩ | ⟨g, z, e1, -⟩ | ⟨g, z, -, c, e3, hc3, e1⟩ <;> rcases h2 with ⟨g2, e4, e5⟩ | ⟨g2, z2, e4, e5⟩ | ⟨g2, z2, f2, c2, e4, hc4, e5⟩
  · exact ⟨by rw [e4, e1], by rw [e5]; exact .of h'⟩
  · exact bf g2 g
  · exact bf g2 g
  · exact bf g g2
  · exact ⟨by rw [e4, e1], by rw [e5]; exact .of h'⟩
  · exact absurd z z2
  · exact bf g g2
  · exact absurd z2 z
  · exact ⟨by rw [e5, e1, nI_in1 e4 e3 (by have := h.1.1.2.2.1.2.1; omega) (by omega)], .of (h'.r f2)⟩
set_option maxRecDepth 100000 in
theorem q_cells (mu : Mu) (h : Rel mu) (cup what : Int32) : Con yX8_cells cX8_cells 3 (some .int) 7 [vC 0, vI cup, vI what] mu (fun r m1 => Con yX9_cells cX9_cells 9 (some .int) 5 [vC 94, vI cup, vI what] m1 (fun r2 m2 => r2 = r ∧ Rel m2)) := by
  obtain ⟨nc, np, nt, h⟩ := h
  refine con_wk (c_X8_cells mu h.sok cup what) (fun r m1 h1 => ?_)
  have hf : fC mu m1 := by
    rcases h1 with ⟨-, -, rfl⟩ | ⟨-, -, -, rfl⟩ | ⟨-, -, f, -⟩
    · exact fC.rf _
    · exact fC.rf _
    · exact f.c
  have h' := h.c hf
  refine con_wk (c_X9_cells m1 nc np h'.rb cup what) (fun r2 m2 h2 => ?_)
  rw [eG_c h.sok hf, hf 2 (by omega)] at h2
  have e92 : m1 9 2 = mu 9 2 := by rw [hf 9 (by omega)]
  rw [e92] at h2
  rw [← hs_eq (m := mu) h] at h2
  rcases h1 with ⟨g, e1, -⟩ | ⟨g, z, e1, -⟩ | ⟨g, z, -, l, hL1, e1⟩ <;> rcases h2 with ⟨g2, e4, e5⟩ | ⟨g2, z2, e4, e5⟩ | ⟨g2, z2, f2, l2, hL2, e5⟩
  · exact ⟨by rw [e4, e1], by rw [e5]; exact .of h'⟩
  · exact bf g2 g
  · exact bf g2 g
  · exact bf g g2
  · exact ⟨by rw [e4, e1], by rw [e5]; exact .of h'⟩
  · exact absurd z z2
  · exact bf g g2
  · exact absurd z2 z
  · exact ⟨by rw [e5, e1, (cc_one hL2 hL1 90).1, (cc_one hL2 hL1 90).2], .of (h'.r f2.m)⟩
theorem mid_eq {e : Nat → Int32} {cup what r r2 : Int32} (h1 : (mdP e cup 90 = (-1, -1) ∧ r = -100004) ∨ ∃ b, b < 90 ∧ mdP e cup 90 = (nI b, nI (rnK e cup b)) ∧ r = if what = 0 then gU b else if what = 1 then gV b else nI (rnK e cup b)) (h2 : (mdP e cup 90 = (-1, -1) ∧ r2 = -100004) ∨ ∃ b, b < 90 ∧ mdP e cup 90 = (nI b, nI (rnK e cup b)) ∧ r2 = if what = 0 then gU b else if what = 1 then gV b else nI (rnK e cup b)) : r2 = r := by
  rcases h1 with ⟨a, e1⟩ | ⟨b, hb, a, e1⟩ <;> rcases h2 with ⟨a2, e2⟩ | ⟨b2, hb2, a2, e2⟩
  · rw [e2, e1]
  · have e := congrArg Prod.fst (a.symm.trans a2)
    exact absurd e.symm (nI_nem1 (by omega))
  · have e := congrArg Prod.fst (a2.symm.trans a)
    exact absurd e.symm (nI_nem1 (by omega))
  · have e : nI b2 = nI b := congrArg Prod.fst (a2.symm.trans a)
    rw [e2, e1, (nI_eq (by omega) (by omega)).mp e]
set_option maxRecDepth 100000 in
theorem q_middle (mu : Mu) (h : Rel mu) (cup what : Int32) : Con yX8_middle cX8_middle 4 (some .int) 7 [vC 0, vI cup, vI what] mu (fun r m1 => Con yX9_middle cX9_middle 7 (some .int) 5 [vC 94, vI cup, vI what] m1 (fun r2 m2 => r2 = r ∧ Rel m2)) := by
  obtain ⟨nc, np, nt, h⟩ := h
  refine con_wk (c_X8_middle mu h.sok cup what) (fun r m1 h1 => ?_)
  have hf : fC mu m1 := by
    rcases h1 with ⟨-, -, rfl⟩ | ⟨-, -, -, rfl⟩ | ⟨-, -, f, -⟩
    · exact fC.rf _
    · exact fC.rf _
    · exact f.c
  have h' := h.c hf
  refine con_wk (c_X9_middle m1 nc np h'.rb cup what) (fun r2 m2 h2 => ?_)
  rw [eG_c h.sok hf, hf 2 (by omega)] at h2
  have e92 : m1 9 2 = mu 9 2 := by rw [hf 9 (by omega)]
  rw [e92] at h2
  rw [← hs_eq (m := mu) h] at h2
  rcases h1 with ⟨g, e1, -⟩ | ⟨g, z, e1, -⟩ | ⟨g, z, -, e1⟩ <;> rcases h2 with ⟨g2, e4, e5⟩ | ⟨g2, z2, e4, e5⟩ | ⟨g2, z2, f2, e5⟩
  · exact ⟨by rw [e4, e1], by rw [e5]; exact .of h'⟩
  · exact bf g2 g
  · exact bf g2 g
  · exact bf g g2
  · exact ⟨by rw [e4, e1], by rw [e5]; exact .of h'⟩
  · exact absurd z z2
  · exact bf g g2
  · exact absurd z2 z
  · exact ⟨mid_eq e1 e5, .of (h'.r f2.m)⟩
set_option maxRecDepth 100000 in
theorem q_which (mu : Mu) (h : Rel mu) : Con yX8_which cX8_which 5 (some .int) 7 [vC 0] mu (fun r m1 => Con yX9_which cX9_which 5 (some .int) 5 [vC 94] m1 (fun r2 m2 => r2 = r ∧ Rel m2)) := by
  obtain ⟨nc, np, nt, h⟩ := h
  refine con_wk (c_X8_which mu h.sok nc h.1.1.2.2.1.1 h.1.1.2.2.1.2.1) (fun r m1 h1 => ?_)
  have hf : fC mu m1 := by
    rcases h1 with ⟨-, -, rfl⟩ | ⟨-, f, -⟩
    · exact fC.rf _
    · exact f.c
  have h' := h.c hf
  refine con_wk (c_X9_which m1 nc np h'.rb) (fun r2 m2 h2 => ?_)
  have e92 : m1 9 2 = mu 9 2 := by rw [hf 9 (by omega)]
  rw [e92, whF_c h.sok hf h.1.1.2.2.1.2.1] at h2
  rcases h1 with ⟨z, e1, -⟩ | ⟨z, -, e1⟩ <;> rcases h2 with ⟨z2, e4, e5⟩ | ⟨z2, f2, e5⟩
  · exact ⟨by rw [e4, e1], by rw [e5]; exact .of h'⟩
  · exact absurd z z2
  · exact absurd z2 z
  · exact ⟨by rw [e5, e1], .of (h'.r f2.m)⟩
set_option maxRecDepth 100000 in
theorem q_down (mu : Mu) (h : Rel mu) (stp pace : Int32) : Con yX8_down cX8_down 4 (some .int) 5 [vC 0, vI stp, vI pace] mu (fun r m1 => Con yX9_down cX9_down 5 (some .int) 3 [vC 94, vI stp, vI pace] m1 (fun r2 m2 => r2 = r ∧ Rel m2)) := by
  obtain ⟨nc, np, nt, h⟩ := h
  refine con_wk (c_X8_down mu h.sok stp pace) (fun r m1 h1 => ?_)
  have hf : fC mu m1 := by
    rcases h1 with ⟨-, -, rfl⟩ | ⟨-, f, -⟩
    · exact fC.rf _
    · exact f.c
  have h' := h.c hf
  refine con_wk (c_X9_down m1 nc np h'.rb stp pace) (fun r2 m2 h2 => ?_)
  rw [dnP_c h.sok hf] at h2
  rcases h1 with ⟨g, e1, -⟩ | ⟨g, -, k, e1, k1, e3⟩ <;> rcases h2 with ⟨g2, e4, e5⟩ | ⟨g2, f2, k2, e4, k3, e5⟩
  · exact ⟨by rw [e4, e1], by rw [e5]; exact .of h'⟩
  · exact bf g2 g
  · exact bf g g2
  · exact ⟨by rw [e5, e3, nI_in1 e4 e1 (by omega) (by omega)]; rfl, .of (h'.r f2.m)⟩
theorem tr_gd {tr : Int32} {z : Nat} (hz : z ≤ 8) : inB tr (-1) (nI z - 1) = (decide (tr = -1) || hsB (nI z) tr) := by
  have e1 : (nI z - 1).toInt = (z : Int) - 1 := by
    have h1 : (1 : Int32).toInt = 1 := rfl
    rw [i_sub (by rw [nI_toInt (by omega), h1]; omega) (by rw [nI_toInt (by omega), h1]; omega), nI_toInt (by omega), h1]
  have e2 : (-1 : Int32).toInt = -1 := rfl
  have e3 : (0 : Int32).toInt = 0 := rfl
  have key : inB tr (-1) (nI z - 1) = true ↔ (tr = -1 ∨ hsB (nI z) tr = true) := by
    unfold inB hsB
    rw [decide_eq_true_eq, decide_eq_true_eq, i_lt, i_lt, i_lt, i_le, e1, e2, e3, nI_toInt (by omega), i_eq, e2]
    omega
  cases h1 : inB tr (-1) (nI z - 1)
  · have hn : ¬ (tr = -1 ∨ hsB (nI z) tr = true) := fun h => by rw [key.mpr h] at h1; cases h1
    rw [decide_eq_false (fun h => hn (Or.inl h)), Bool.false_or]
    cases h2 : hsB (nI z) tr
    · rfl
    · exact absurd (Or.inr h2) hn
  · rcases key.mp h1 with h | h
    · rw [decide_eq_true h]; rfl
    · rw [h, Bool.or_true]
theorem R1.tkr {mu m : Mu} {nc np nt : Nat} (h : R1 mu nc np nt) (f : fC mu m) : ∀ i, i < nt → TKR m (tS mu) (tG mu) (tM mu) i := fun i hi => by
  obtain ⟨⟨a1, -, -, -, ⟨t1, t2, t3⟩⟩, -⟩ := h
  obtain ⟨b1, b2, b3⟩ := trk a1 t1 t2 hi
  obtain ⟨c1, c2, c3, c4⟩ := t3 i hi
  unfold TKR
  rw [f 98 (by omega)]
  exact ⟨c3.trans b2.1, b2.2, c2.trans b1.1, b1.2.1, b1.2.2, c4.trans b3.1, b3.2.1, b3.2.2⟩
set_option maxRecDepth 100000 in
theorem q_most (mu : Mu) (h : Rel mu) (time tr : Int32) : Con yX8_most cX8_most 3 (some .int) 4 [vC 0, vI time, vI tr] mu (fun r m1 => Con yX9_most cX9_most 9 (some .int) 1 [vC 94, vI time, vI tr] m1 (fun r2 m2 => r2 = r ∧ Rel m2)) := by
  obtain ⟨nc, np, nt, h⟩ := h
  refine con_wk (c_X8_most mu h.sok time tr) (fun r m1 h1 => ?_)
  have hf : fC mu m1 := by
    rcases h1 with ⟨-, -, rfl⟩ | ⟨-, f, -⟩
    · exact fC.rf _
    · exact fun q hq => f q (by omega)
  have h' := h.c hf
  refine con_wk (c_X9_most m1 (tS mu) (tG mu) (tM mu) nt h'.1.2.2.2 h'.1.1.2.2.2.2.2.1 (h.1.tkr hf) time tr) (fun r2 m2 h2 => ?_)
  rw [tr_gd h.1.1.2.2.2.2.2.1] at h2
  have eh : hasB mu 17 tr = hsB (nI nt) tr := by show decide (¬ tr < 0 ∧ ¬ mu 17 2 ≤ tr) = decide (¬ tr < 0 ∧ ¬ nI nt ≤ tr); rw [h.1.1.2.2.2.2.1]
  rw [eh] at h1
  rcases h1 with ⟨g, e1, -⟩ | ⟨g, -, k, z, e1, k1, ez, hz, e3⟩ <;> rcases h2 with ⟨g2, e4, e5⟩ | ⟨g2, f2, k2, e4, k3, e5⟩
  · exact ⟨by rw [e4, e1], by rw [e5]; exact .of h'⟩
  · exact bf g2 g
  · exact bf g g2
  · have ek := nI_in1 e4 e1 (by omega) (by omega)
    have ezz : z = nt := nI_in1 ez h.1.1.2.2.2.2.1 (by omega) (by have := h.1.1.2.2.2.2.2.1; omega)
    subst ek
    subst ezz
    refine ⟨?_, .of (h'.r ⟨fun q hq => f2 q (by omega), fun j _ => by rw [f2 94 (by omega)]⟩)⟩
    rcases e3 with ⟨t1, e6⟩ | ⟨t1, T, t2, t3, e6⟩ <;> rcases e5 with ⟨t4, e7⟩ | ⟨t4, T2, t5, t6, e7⟩
    · rw [e7, e6]
    · exact absurd t1 t4
    · exact absurd t4 t1
    · rw [e7, e6, nI_in1 t5 t2 (by omega) (by omega), tmR_S]
theorem ref_eq {mu : Mu} (h : R4 mu) {a : Nat} (ha : a < 4) (l i n : Int32) : refS mu a l i n = refV mu a l i n := by
  unfold refS refV
  rcases h a ha with ⟨h1, h2⟩ | ⟨⟨z, h1, h2, h3⟩, h4, h5, -⟩
  · rw [if_pos h1, h2, if_pos (by decide)]
  · rw [if_neg h5, if_neg (show ¬ mu 88 a = -1 by rw [h2]; exact nI_nem1 (by omega)), h4, h2, h3]
set_option maxRecDepth 100000 in
theorem q_filmed (mu : Mu) (h : Rel mu) (sh0 l i n what : Int32) : Con yX8_filmed cX8_filmed 10 (some .int) 6 [vC 0, vI sh0, vI l, vI i, vI n, vI what] mu (fun r m1 => Con yX9_filmed cX9_filmed 12 (some .int) 4 [vC 94, vI sh0, vI l, vI i, vI n, vI what] m1 (fun r2 m2 => r2 = r ∧ Rel m2)) := by
  obtain ⟨nc, np, nt, h⟩ := h
  refine con_wk (c_X8_filmed mu h.sok h.hok sh0 l i n what) (fun r m1 h1 => ?_)
  have hf : fC mu m1 := by
    rcases h1 with ⟨-, -, rfl⟩ | ⟨-, a, N, -, -, -, -, -, ⟨-, -, rfl⟩ | ⟨-, ⟨-, -, rfl⟩ | ⟨-, f, -⟩⟩⟩
    · exact fC.rf _
    · exact fC.rf _
    · exact fC.rf _
    · exact f.c
  have h' := h.c hf
  refine con_wk (c_X9_filmed m1 nc np h'.rb h'.2.2.2.1.rhs (fun a ha hn j hj => by rcases h'.2.2.2.1 a ha with q | q; rw [q.2] at hn; exact absurd (by decide) hn; exact q.2.2.2 j hj) sh0 l i n what) (fun r2 m2 h2 => ?_)
  rcases h1 with ⟨g, e1, -⟩ | ⟨g, a, N, ha, ea, en, n1, n2, h1⟩ <;> rcases h2 with ⟨g2, e4, e5⟩ | ⟨g2, a2, N2, ha2, ea2, en2, n3, n4, h2⟩
  · exact ⟨by rw [e4, e1], by rw [e5]; exact .of h'⟩
  · exact bf g2 g
  · exact bf g g2
  · have e6 := nI_in1 ea2 ea (by omega) (by omega)
    have e7 := nI_in1 en2 en (by omega) (by omega)
    subst e6
    subst e7
    rw [ref_eq h'.2.2.2.1 ha2] at h2
    have eR : refV m1 a2 l i (2 * n) = refV mu a2 l i (2 * n) := by unfold refV; rw [hf 88 (by omega), hf 87 (by omega)]
    rw [eR, show m1 9 2 = mu 9 2 by rw [hf 9 (by omega)]] at h2
    rcases h1 with ⟨r1, e1, -⟩ | ⟨r1, h1⟩ <;> rcases h2 with ⟨r2, e4, e5⟩ | ⟨r2, h2⟩
    · exact ⟨by rw [e4, e1], by rw [e5]; exact .of h'⟩
    · exact absurd r2 r1
    · exact absurd r1 r2
    · rcases h1 with ⟨z1, e1, -⟩ | ⟨z1, f1, I, i1, i2, e1⟩ <;> rcases h2 with ⟨z2, e4, e5⟩ | ⟨z2, f2, I2, i3, i4, e5⟩
      · exact ⟨by rw [e4, e1], by rw [e5]; exact .of h'⟩
      · exact absurd z1 z2
      · exact absurd z2 z1
      · exact ⟨by rw [e5, e1, sh_cg ha2 h.sok.t9 f1, nI_in1 i3 i1 (by omega) (by omega)], .of (h'.r f2.m)⟩
