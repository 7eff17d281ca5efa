/-! ===== what a setup holds; the numbers of a try out of it ===== -/
def rg (x : Int32) (a b : Int) : Prop := a ≤ x.toInt ∧ x.toInt ≤ b
def SOK (mu : Mu) (b : Nat) : Prop := (rg (mu (b + 1) 0) 10 60 ∧ rg (mu (b + 1) 1) 1 4 ∧ rg (mu (b + 1) 2) 0 20) ∧
  (∃ z, z ≤ 4 ∧ mu (b + 2) 1 = nI 5 ∧ mu (b + 2) 2 = nI z ∧ ∀ i, i < z → rg (mu (b + 4 + i) 0) (-9) 9 ∧ rg (mu (b + 4 + i) 1) (-9) 9 ∧ rg (mu (b + 4 + i) 2) 0 9 ∧ rg (mu (b + 4 + i) 3) 0 99 ∧ rg (mu (b + 4 + i) 4) 0 1) ∧
  (∃ z, z ≤ 6 ∧ mu (b + 8) 1 = nI 3 ∧ mu (b + 8) 2 = nI z ∧ ∀ i, i < z → rg (mu (b + 10 + i) 0) 1 20 ∧ rg (mu (b + 10 + i) 1) (-9) 9 ∧ rg (mu (b + 10 + i) 2) (-9) 9) ∧
  (∃ z, z ≤ 8 ∧ mu (b + 16) 1 = nI 4 ∧ mu (b + 16) 2 = nI z ∧ ∀ i, i < z → rg (mu (b + 18 + i) 0) 0 16 ∧ rg (mu (b + 18 + i) 1) 1 60 ∧ rg (mu (b + 18 + i) 2) 0 1584 ∧ rg (mu (b + 18 + i) 3) 1 9)
theorem SOK.t3 {mu : Mu} (h : SOK mu 1) : TOK mu 3 4 5 := by obtain ⟨-, ⟨z, h1, h2, h3, -⟩, -⟩ := h; exact ⟨h2, z, h1, h3⟩
theorem SOK.t9 {mu : Mu} (h : SOK mu 1) : TOK mu 9 6 3 := by obtain ⟨-, -, ⟨z, h1, h2, h3, -⟩, -⟩ := h; exact ⟨h2, z, h1, h3⟩
theorem SOK.t17 {mu : Mu} (h : SOK mu 1) : TOK mu 17 8 4 := by obtain ⟨-, -, -, ⟨z, h1, h2, h3, -⟩⟩ := h; exact ⟨h2, z, h1, h3⟩
theorem rg_nI {x : Int32} {a b : Nat} (h : rg x a b) : ∃ n : Nat, x = nI n ∧ a ≤ n ∧ n ≤ b := by
  obtain ⟨n, h1, h2⟩ := nI_of (x := x) (by rw [i_lt]; show ¬ _ < (0 : Int); have := h.1; omega)
  have e : x.toInt = n := by rw [h2, nI_toInt h1]
  exact ⟨n, h2, by have := h.1; omega, by have := h.2; omega⟩
/-- a told u or v of a part -/
theorem part_rg {mu : Mu} (h : SOK mu 1) (row : Int32) (c : Nat) (hc : c = 1 ∨ c = 2) : rg (tget mu 9 row (nI c)) (-9) 9 := by
  obtain ⟨-, -, ⟨z, hz, h1, h2, h3⟩, -⟩ := h
  unfold tget
  have h1' : mu 9 1 = nI 3 := h1
  have h2' : mu 9 2 = nI z := h2
  by_cases e : (¬ row < 0 ∧ ¬ mu 9 2 ≤ row) ∧ (¬ nI c < 0 ∧ ¬ mu 9 1 ≤ nI c)
  · rw [if_pos e]
    have hr := clamp_lt (in_cmp e.1.1 e.1.2 h2' (Nat.le_refl z) (by omega))
    have := h3 row.toNatClampNeg hr
    rw [nI_clamp (by omega)]
    rcases hc with rfl | rfl
    · exact this.2.1
    · exact this.2.2
  · rw [if_neg e]
    exact ⟨by decide, by decide⟩
theorem hst_1 (mu : Mu) (fu fv : Int32) : ∀ n, hst mu fu fv n 1 = fu ∧ hst mu fu fv n 2 = fv
  | 0 => ⟨rfl, rfl⟩
  | n + 1 => hst_1 mu fu fv n
theorem hU_rg {mu : Mu} (h : SOK mu 1) {fu fv : Int32} (hu : rg fu (-10) 10) (n : Nat) : -10 ≤ (hU mu fu fv n).toInt ∧ (hU mu fu fv n).toInt ≤ 10 := by
  show -10 ≤ (hgoU mu (hst mu fu fv n)).toInt ∧ (hgoU mu (hst mu fu fv n)).toInt ≤ 10
  unfold hgoU
  split
  · split
    · rw [(hst_1 mu fu fv n).1]; exact hu
    · have this : rg (tget mu 9 (hmid mu (hst mu fu fv n)).1 1) (-9) 9 := part_rg h (hmid mu (hst mu fu fv n)).1 1 (Or.inl rfl)
      exact ⟨by have := this.1; omega, by have := this.2; omega⟩
  · decide
theorem hV_rg {mu : Mu} (h : SOK mu 1) {fu fv : Int32} (hv : rg fv (-10) 10) (n : Nat) : -10 ≤ (hV mu fu fv n).toInt ∧ (hV mu fu fv n).toInt ≤ 10 := by
  show -10 ≤ (hgoV mu (hst mu fu fv n)).toInt ∧ (hgoV mu (hst mu fu fv n)).toInt ≤ 10
  unfold hgoV
  split
  · split
    · rw [(hst_1 mu fu fv n).2]; exact hv
    · have this : rg (tget mu 9 (hmid mu (hst mu fu fv n)).1 2) (-9) 9 := part_rg h (hmid mu (hst mu fu fv n)).1 2 (Or.inr rfl)
      exact ⟨by have := this.1; omega, by have := this.2; omega⟩
  · decide
def mkE (mu : Mu) (cord meet lc lf : Int32) : Vc := fun j => if j = 0 then cord else if j = 1 then mu 2 1 else if j = 2 then mu 2 2 else if j = 3 then meet else if j = 4 then lc else lf
def cupD (mu : Mu) : Nat → Vc := fun i j => if i < 4 then mu (5 + i) j else 0
def TrM (mu : Mu) (cord u v meet lc lf : Int32) (n : Nat) (s : Vc) : Prop := Traj (mkE mu cord meet lc lf) (cupD mu) (mu 3 2).toNatClampNeg (hU mu u v) (hV mu u v) n s
/-- number j behind n steps of the try by these numbers -/
noncomputable def tv (mu : Mu) (cord u v meet lc lf : Int32) (n j : Nat) : Int32 := Classical.epsilon (fun r => ∃ s, TrM mu cord u v meet lc lf n s ∧ r = s j)
theorem traj_C {E : Vc} {C D : Nat → Vc} {nc : Nat} {U V : Vc} (hC : ∀ i, i < nc → C i = D i) (hlc : E 4 = -1 ∨ ∃ lc, lc < nc ∧ E 4 = nI lc) (hnc : nc ≤ 4) : ∀ (n : Nat) (s : Vc), Traj E C nc U V n s → Traj E D nc U V n s
  | 0, _, h => h
  | n + 1, t, h => by
    obtain ⟨s, hs, h⟩ := h
    refine ⟨s, traj_C hC hlc hnc n s hs, ?_⟩
    rcases h with ⟨a, h⟩ | h
    · exact Or.inl ⟨a, step_C hC hlc hnc h⟩
    · exact Or.inr h
theorem TrM.tv {mu : Mu} {cord u v meet lc lf : Int32} {n nc : Nat} {s : Vc} (h : TrM mu cord u v meet lc lf n s) (ez : mu 3 2 = nI nc) (hz : nc ≤ 4) (hlc : lc = -1 ∨ ∃ i, i < nc ∧ lc = nI i) {j : Nat} (hj : j < 15) : tv mu cord u v meet lc lf n j = s j := by
  obtain ⟨s2, h2, h3⟩ := Classical.epsilon_spec (p := fun r => ∃ s, TrM mu cord u v meet lc lf n s ∧ r = s j) ⟨_, s, h, rfl⟩
  show Classical.epsilon _ = _
  rw [h3]
  unfold TrM at h h2
  rw [ez, nI_clamp (by omega)] at h h2
  exact traj_one (fun _ _ => rfl) (fun _ _ _ _ => rfl) hlc hz n (fun _ _ => ⟨rfl, rfl⟩) s2 s h2 h j hj
/-- the same numbers where the setup is the same -/
theorem tv_cg {m mu : Mu} (hO : TOK mu 9 6 3) (h : ∀ q, 1 ≤ q → q ≤ 26 → m q = mu q) : tv m = tv mu := by
  have e1 : mkE m = mkE mu := by
    funext a b c d j
    unfold mkE
    rw [h 2 (by decide) (by decide)]
  have e2 : cupD m = cupD mu := by
    funext i j
    unfold cupD
    split
    · rw [h (5 + i) (by omega) (by omega)]
    · rfl
  have e3 : ∀ u v, hU m u v = hU mu u v ∧ hV m u v = hV mu u v := fun u v => (hst_cg hO (fun q a b => h q (by omega) (by omega))).2
  funext cord u v meet lc lf n j
  unfold tv TrM
  rw [e1, e2, (e3 u v).1, (e3 u v).2, h 3 (by decide) (by decide)]
/-- a world that differs in the try and its hand alone -/
def fr2 (mu m : Mu) : Prop := ∀ q, q ≠ 53 → q ≠ 54 → m q = mu q
theorem SOK.cg {m mu : Mu} {b : Nat} (h : SOK mu b) (hq : ∀ q, b ≤ q → q ≤ b + 25 → m q = mu q) : SOK m b := by
  obtain ⟨h1, ⟨z1, a1, a2, a3, a4⟩, ⟨z2, b1, b2, b3, b4⟩, ⟨z3, c1, c2, c3, c4⟩⟩ := h
  refine ⟨by rw [hq (b + 1) (by omega) (by omega)]; exact h1, ⟨z1, a1, ?_, ?_, fun i hi => ?_⟩, ⟨z2, b1, ?_, ?_, fun i hi => ?_⟩, ⟨z3, c1, ?_, ?_, fun i hi => ?_⟩⟩
  · rw [hq (b + 2) (by omega) (by omega)]; exact a2
  · rw [hq (b + 2) (by omega) (by omega)]; exact a3
  · rw [hq (b + 4 + i) (by omega) (by omega)]; exact a4 i hi
  · rw [hq (b + 8) (by omega) (by omega)]; exact b2
  · rw [hq (b + 8) (by omega) (by omega)]; exact b3
  · rw [hq (b + 10 + i) (by omega) (by omega)]; exact b4 i hi
  · rw [hq (b + 16) (by omega) (by omega)]; exact c2
  · rw [hq (b + 16) (by omega) (by omega)]; exact c3
  · rw [hq (b + 18 + i) (by omega) (by omega)]; exact c4 i hi
/-- ahead of the first step -/
def Beg (mu : Mu) (cord u v meet lc lf : Int32) (m : Mu) : Prop := fr2 mu m ∧ (∀ j, 0 < j → j < 9 → m 54 j = hbeg u v j) ∧ m 53 2 = cord ∧ m 53 3 = meet ∧ m 53 4 = lc ∧ m 53 5 = lf ∧ eqV (rdT m) (s0 cord)
theorem Beg.ok {mu m : Mu} {cord u v meet lc lf : Int32} {nc : Nat} (h : Beg mu cord u v meet lc lf m) (hS : SOK mu 1) (hcd : rg cord 10 60) (hu : rg u (-10) 10) (hv : rg v (-10) 10) (ez : mu 3 2 = nI nc) (hz : nc ≤ 4) (hlc : lc = -1 ∨ ∃ i, i < nc ∧ lc = nI i) : COK m u v nc ∧ TS m u v nc 0 m := by
  obtain ⟨h1, h2, h3, h4, h5, h6, h7⟩ := h
  have e3 : m 3 = mu 3 := h1 3 (by decide) (by decide)
  have e9 : m 9 = mu 9 := h1 9 (by decide) (by decide)
  have hSm : SOK m 1 := hS.cg (fun q a b => h1 q (by omega) (by omega))
  refine ⟨⟨TOK.cg e3 hS.t3, hz, by rw [e3]; exact ez, TOK.cg e9 hS.t9, by rw [h5]; exact hlc, ?_, ?_, hU_rg hSm hu, hV_rg hSm hv⟩, fun _ _ _ => rfl, fun _ _ _ => rfl, ?_, fun _ j a b => h2 j a (by omega)⟩
  · obtain ⟨cd, e, c1, c2⟩ := rg_nI (a := 10) (b := 60) hcd
    exact ⟨cd, h3.trans e, by omega, c2⟩
  · have := hSm.1.2.1
    exact ⟨by have := this.1; show 0 ≤ (m 2 1).toInt; exact Int.le_trans (by decide) this, this.2⟩
  · show eqV (rdT m) (s0 (m 53 2))
    rw [h3]
    exact h7
theorem TS.tv {mu m0 m : Mu} {cord u v meet lc lf : Int32} {nc n : Nat} (hB : Beg mu cord u v meet lc lf m0) (hS : SOK mu 1) (ez : mu 3 2 = nI nc) (hz : nc ≤ 4) (hlc : lc = -1 ∨ ∃ i, i < nc ∧ lc = nI i) (h : TS m0 u v nc n m) : fr2 mu m ∧ ∀ j, j < 15 → rdT m j = tv mu cord u v meet lc lf n j := by
  obtain ⟨h1, h2, h3, h4, h5, h6, h7⟩ := hB
  obtain ⟨a1, a2, a3, a4⟩ := h
  have e2 : m0 2 = mu 2 := h1 2 (by decide) (by decide)
  have eE : rdE m0 = mkE mu cord meet lc lf := by
    funext j
    unfold rdE mkE
    rw [h3, h4, h5, h6, e2]
  obtain ⟨-, eU, eV⟩ := hst_cg (m := m0) (mu := mu) (fu := u) (fv := v) hS.t9 (fun q a b => h1 q (by omega) (by omega))
  rw [eE, eU, eV] at a3
  have a5 := traj_C (D := cupD mu) (fun i hi => by
    funext j
    show m0 (5 + i) j = if i < 4 then mu (5 + i) j else 0
    rw [if_pos (by omega), h1 (5 + i) (by omega) (by omega)]) hlc hz n _ a3
  refine ⟨fun q q1 q2 => by rw [a1 q q1 q2, h1 q q1 q2], fun j hj => ?_⟩
  have hT : TrM mu cord u v meet lc lf n (rdT m) := by
    unfold TrM
    rw [ez, nI_clamp (by omega)]
    exact a5
  exact (hT.tv ez hz hlc hj).symm
theorem Beg.of {mu m : Mu} {cord u v : Int32} (h : (∀ q, q ≠ 53 → q ≠ 54 → m q = mu q) ∧ (∀ j, 0 < j → j < 9 → m 54 j = hbeg u v j) ∧ ∀ j, 1 < j → j < 17 → m 53 j = tbeg cord j) : Beg mu cord u v 1 (-1) 0 m := by
  obtain ⟨h1, h2, h3⟩ := h
  refine ⟨h1, h2, h3 2 (by decide) (by decide), h3 3 (by decide) (by decide), h3 4 (by decide) (by decide), h3 5 (by decide) (by decide), ?_⟩
  exact eqV.mk (h3 6 (by decide) (by decide)) (h3 7 (by decide) (by decide)) (h3 8 (by decide) (by decide)) (h3 9 (by decide) (by decide)) (h3 10 (by decide) (by decide)) (h3 11 (by decide) (by decide)) (h2 7 (by decide) (by decide)) (h2 8 (by decide) (by decide)) (h3 12 (by decide) (by decide)) (h3 14 (by decide) (by decide)) (h3 15 (by decide) (by decide)) (h3 16 (by decide) (by decide)) (h3 13 (by decide) (by decide)) (h2 5 (by decide) (by decide)) (h2 6 (by decide) (by decide))
theorem SOK.nc {mu : Mu} (h : SOK mu 1) : ∃ nc, nc ≤ 4 ∧ mu 3 2 = nI nc := by
  obtain ⟨-, ⟨z, h1, -, h3, -⟩, -⟩ := h
  exact ⟨z, h1, h3⟩
theorem toldU {mu : Mu} (h : SOK mu 1) : rg (tget mu 9 0 1) (-10) 10 ∧ rg (tget mu 9 0 2) (-10) 10 := by
  have a := part_rg h 0 1 (Or.inl rfl)
  have b := part_rg h 0 2 (Or.inr rfl)
  have a' : rg (tget mu 9 0 1) (-9) 9 := a
  have b' : rg (tget mu 9 0 2) (-9) 9 := b
  exact ⟨⟨by have := a'.1; omega, by have := a'.2; omega⟩, ⟨by have := b'.1; omega, by have := b'.2; omega⟩⟩
set_option maxHeartbeats 4000000 in
set_option maxRecDepth 100000 in
theorem c_X7_endBy (mu : Mu) (hS : SOK mu 1) (cord u v : Int32) (hcd : rg cord 10 60) (hu : rg u (-10) 10) (hv : rg v (-10) 10) : Con yX7_endBy cX7_endBy 4 (some .int) 5 [vC 53, vI cord, vI u, vI v] mu (fun r mu2 => fr2 mu mu2 ∧ r = tv mu cord u v 1 (-1) 0 100 9) := by
  refine con_of (own := RX7) (by decide) rfl (Nat.le_of_ble_eq_true rfl) (fun X g hq => ?_)
  show WA X g RX7 4 cX7_endBy 0 [(0, vC 53), (1, vI cord), (2, vI u), (3, vI v)] [] mu
  obtain ⟨nc, hz, ez⟩ := hS.nc
  refine o_aload_n dX7_endBy_0 rfl rfl (by rfl) ?_
  refine o_iload_n dX7_endBy_1 rfl rfl (by rfl) ?_
  refine o_iload_n dX7_endBy_2 rfl rfl (by rfl) ?_
  refine o_iload_n dX7_endBy_3 rfl rfl (by rfl) ?_
  refine o_callVV cs_X7_begin cv_X7_91 (c_X7_begin _ cord u v) hq.2.2.2 (Nat.le_of_ble_eq_true rfl) dX7_endBy_4 rfl (by decide) (by rfl) (by rfl) (by rfl) rfl rfl (Nat.le_of_ble_eq_true rfl) (fun m1 h1 => ?_)
  have hB := Beg.of h1
  have hOK := hB.ok hS hcd hu hv ez hz (Or.inl rfl)
  refine o_aload_n dX7_endBy_7 rfl rfl (by rfl) ?_
  refine o_bipush (v := 100) dX7_endBy_8 rfl (by decide) ?_
  refine o_callVV cs_X7_goOn cv_X7_97 (c_X7_goOn _ u v nc hOK.1 _ 0 100 (by decide) (by decide) hOK.2) hq.2.2.2 (Nat.le_of_ble_eq_true rfl) dX7_endBy_10 rfl (by decide) (by rfl) (by rfl) (by rfl) rfl rfl (Nat.le_of_ble_eq_true rfl) (fun m2 h2 => ?_)
  have hF := h2.tv hB hS ez hz (Or.inl rfl)
  refine o_aload_n dX7_endBy_13 rfl rfl (by rfl) ?_
  refine o_getI cl_X7_72 dX7_endBy_14 rfl (by decide) (by rfl) (by rfl) ?_
  exact o_iret hq dX7_endBy_17 ⟨hF.1, hF.2 9 (by decide)⟩
set_option maxHeartbeats 4000000 in
set_option maxRecDepth 100000 in
theorem c_X7_endLate (mu : Mu) (hS : SOK mu 1) (lc : Nat) (lf u v : Int32) (hl : nI lc < mu 3 2) (hl4 : lc < 4) (hu : rg u (-10) 10) (hv : rg v (-10) 10) : Con yX7_endLate cX7_endLate 5 (some .int) 5 [vC 53, vI (nI lc), vI lf, vI u, vI v] mu (fun r mu2 => fr2 mu mu2 ∧ r = tv mu (mu 2 0) u v 1 (nI lc) lf 100 9) := by
  refine con_of (own := RX7) (by decide) rfl (Nat.le_of_ble_eq_true rfl) (fun X g hq => ?_)
  show WA X g RX7 5 cX7_endLate 0 [(0, vC 53), (1, vI (nI lc)), (2, vI lf), (3, vI u), (4, vI v)] [] mu
  obtain ⟨nc, hz, ez⟩ := hS.nc
  rw [ez] at hl
  have hlc := (nI_ltI (by omega) (by omega)).mp hl
  refine o_aload_n dX7_endLate_0 rfl rfl (by rfl) ?_
  refine o_aload_n dX7_endLate_1 rfl rfl (by rfl) ?_
  refine o_getC (q := 1) cl_X7_9 dX7_endLate_2 rfl (by decide) (by rfl) (by rfl) ?_
  refine o_getC (q := 2) cl_X7_81 dX7_endLate_5 rfl (by decide) (by rfl) (by rfl) ?_
  refine o_iconst (v := 0) dX7_endLate_8 rfl (by decide) ?_
  refine o_iald dX7_endLate_9 rfl (by decide) (by rfl) (by rfl) (vp_in_nI (n := 0) (by decide) (by decide)) ?_
  refine o_iload_n dX7_endLate_10 rfl rfl (by rfl) ?_
  refine o_iload dX7_endLate_11 rfl (by rfl) ?_
  refine o_callVV cs_X7_begin cv_X7_91 (c_X7_begin _ (mu 2 0) u v) hq.2.2.2 (Nat.le_of_ble_eq_true rfl) dX7_endLate_13 rfl (by decide) (by rfl) (by rfl) (by rfl) rfl rfl (Nat.le_of_ble_eq_true rfl) (fun m1 h1 => ?_)
  have hB0 := Beg.of h1
  refine o_aload_n dX7_endLate_16 rfl rfl (by rfl) ?_
  refine o_iload_n dX7_endLate_17 rfl rfl (by rfl) ?_
  refine o_put cl_X7_42 cp_X7_4 dX7_endLate_18 rfl (by decide) (by rfl) (by rfl) fitI ?_
  refine o_aload_n dX7_endLate_21 rfl rfl (by rfl) ?_
  refine o_iload_n dX7_endLate_22 rfl rfl (by rfl) ?_
  refine o_put cl_X7_45 cp_X7_5 dX7_endLate_23 rfl (by decide) (by rfl) (by rfl) fitI ?_
  have hB : Beg mu (mu 2 0) u v 1 (nI lc) lf (upF (upF m1 53 4 (nI lc)) 53 5 lf) := ⟨fun q a b => by rw [upF_k a, upF_k a]; exact hB0.1 q a b, fun j a b => hB0.2.1 j a b, hB0.2.2.1, hB0.2.2.2.1, rfl, rfl, fun j hj => (show rdT (upF (upF m1 53 4 (nI lc)) 53 5 lf) j = rdT m1 j from rfl).trans (hB0.2.2.2.2.2.2 j hj)⟩
  have hOK := hB.ok hS hS.1.1 hu hv ez hz (Or.inr ⟨lc, hlc, rfl⟩)
  refine o_aload_n dX7_endLate_26 rfl rfl (by rfl) ?_
  refine o_bipush (v := 100) dX7_endLate_27 rfl (by decide) ?_
  refine o_callVV cs_X7_goOn cv_X7_97 (c_X7_goOn _ u v nc hOK.1 _ 0 100 (by decide) (by decide) hOK.2) hq.2.2.2 (Nat.le_of_ble_eq_true rfl) dX7_endLate_29 rfl (by decide) (by rfl) (by rfl) (by rfl) rfl rfl (Nat.le_of_ble_eq_true rfl) (fun m2 h2 => ?_)
  have hF := h2.tv hB hS ez hz (Or.inr ⟨lc, hlc, rfl⟩)
  refine o_aload_n dX7_endLate_32 rfl rfl (by rfl) ?_
  refine o_getI cl_X7_72 dX7_endLate_33 rfl (by decide) (by rfl) (by rfl) ?_
  exact o_iret hq dX7_endLate_36 ⟨hF.1, hF.2 9 (by decide)⟩
set_option maxHeartbeats 4000000 in
set_option maxRecDepth 100000 in
theorem c_X7_beginAsTold (mu : Mu) (hS : SOK mu 1) : ConV yX7_beginAsTold cX7_beginAsTold 1 2 [vC 53] mu (fun mu2 => Beg mu (mu 2 0) (tget mu 9 0 1) (tget mu 9 0 2) 1 (-1) 0 mu2) := by
  refine conV_of (own := RX7) (by decide) rfl (Nat.le_of_ble_eq_true rfl) (fun X g hq => ?_)
  show WA X g RX7 1 cX7_beginAsTold 0 [(0, vC 53)] [] mu
  refine o_aload_n dX7_beginAsTold_0 rfl rfl (by rfl) ?_
  refine o_aload_n dX7_beginAsTold_1 rfl rfl (by rfl) ?_
  refine o_getC (q := 1) cl_X7_9 dX7_beginAsTold_2 rfl (by decide) (by rfl) (by rfl) ?_
  refine o_getC (q := 2) cl_X7_81 dX7_beginAsTold_5 rfl (by decide) (by rfl) (by rfl) ?_
  refine o_iconst (v := 0) dX7_beginAsTold_8 rfl (by decide) ?_
  refine o_iald dX7_beginAsTold_9 rfl (by decide) (by rfl) (by rfl) (vp_in_nI (n := 0) (by decide) (by decide)) ?_
  refine o_aload_n dX7_beginAsTold_10 rfl rfl (by rfl) ?_
  refine o_getC (q := 1) cl_X7_9 dX7_beginAsTold_11 rfl (by decide) (by rfl) (by rfl) ?_
  refine o_getC (q := 9) cl_X7_17 dX7_beginAsTold_14 rfl (by decide) (by rfl) (by rfl) ?_
  refine o_iconst (v := 0) dX7_beginAsTold_17 rfl (by decide) ?_
  refine o_iconst (v := 1) dX7_beginAsTold_18 rfl (by decide) ?_
  refine o_callV cs_X6_get cv_X7_85 (c_X6_get 9 6 3 tab9 _ hS.t9 0 1) hq.2.2.2 (Nat.le_of_ble_eq_true rfl) dX7_beginAsTold_19 rfl (by decide) (by rfl) (by rfl) (by rfl) rfl rfl (Nat.le_of_ble_eq_true rfl) (fun r1 mu1 h1 => ?_)
  obtain ⟨em, h1⟩ := h1
  rw [em]
  subst h1
  refine o_aload_n dX7_beginAsTold_22 rfl rfl (by rfl) ?_
  refine o_getC (q := 1) cl_X7_9 dX7_beginAsTold_23 rfl (by decide) (by rfl) (by rfl) ?_
  refine o_getC (q := 9) cl_X7_17 dX7_beginAsTold_26 rfl (by decide) (by rfl) (by rfl) ?_
  refine o_iconst (v := 0) dX7_beginAsTold_29 rfl (by decide) ?_
  refine o_iconst (v := 2) dX7_beginAsTold_30 rfl (by decide) ?_
  refine o_callV cs_X6_get cv_X7_85 (c_X6_get 9 6 3 tab9 _ hS.t9 0 2) hq.2.2.2 (Nat.le_of_ble_eq_true rfl) dX7_beginAsTold_31 rfl (by decide) (by rfl) (by rfl) (by rfl) rfl rfl (Nat.le_of_ble_eq_true rfl) (fun r2 mu2 h2 => ?_)
  obtain ⟨em, h2⟩ := h2
  rw [em]
  subst h2
  refine o_callVV cs_X7_begin cv_X7_91 (c_X7_begin _ (mu 2 0) (tget mu 9 0 1) (tget mu 9 0 2)) hq.2.2.2 (Nat.le_of_ble_eq_true rfl) dX7_beginAsTold_34 rfl (by decide) (by rfl) (by rfl) (by rfl) rfl rfl (Nat.le_of_ble_eq_true rfl) (fun m1 h1 => ?_)
  exact o_vret hq dX7_beginAsTold_37 (Beg.of h1)
/-! ===== odds ===== -/
def odW (k : Nat) : Int32 := (if k / 3 = 1 then 2 else 1) * (if k % 3 = 1 then 2 else 1)
noncomputable def odT (mu : Mu) (cord cup : Int32) (k : Nat) : Int32 := if tv mu cord (tget mu 9 0 1 + (nI (k / 3) - 1)) (tget mu 9 0 2 + (nI (k % 3) - 1)) 1 (-1) 0 100 9 = cup then odW k else 0
noncomputable def odS (mu : Mu) (cord cup : Int32) : Nat → Int32
  | 0 => 0
  | k + 1 => odS mu cord cup k + odT mu cord cup k
theorem du_lt : ∀ a, a < 4 → ((1 < nI a - 1) ↔ a = 3) := by decide
theorem du_ab : ∀ a, a < 3 → ∀ b, b < 3 → (2 - ab (nI a - 1)) * (2 - ab (nI b - 1)) = odW (3 * a + b) := by decide
theorem du_rg {x : Int32} (h : rg x (-9) 9) : ∀ a, a < 3 → rg (x + (nI a - 1)) (-10) 10 := by
  intro a ha
  have e : -1 ≤ (nI a - 1).toInt ∧ (nI a - 1).toInt ≤ 1 := by
    match a, ha with
    | 0, _ => decide
    | 1, _ => decide
    | 2, _ => decide
    | a + 3, h => omega
  have := h.1
  have := h.2
  unfold rg
  rw [i_add (by omega) (by omega)]
  omega
theorem odT_at {mu : Mu} {cord cup : Int32} {a b : Nat} (hb : b < 3) : odT mu cord cup (3 * a + b) = if tv mu cord (tget mu 9 0 1 + (nI a - 1)) (tget mu 9 0 2 + (nI b - 1)) 1 (-1) 0 100 9 = cup then odW (3 * a + b) else 0 := by
  unfold odT
  rw [show (3 * a + b) / 3 = a by omega, show (3 * a + b) % 3 = b by omega]
set_option maxHeartbeats 4000000 in
set_option maxRecDepth 100000 in
theorem c_X7_oddsBy (mu : Mu) (hS : SOK mu 1) (cord cup : Int32) (hcd : rg cord 10 60) : Con yX7_oddsBy cX7_oddsBy 8 (some .int) 6 [vC 53, vI cord, vI cup] mu (fun r mu2 => fr2 mu mu2 ∧ r = odS mu cord cup 9) := by
  refine con_of (own := RX7) (by decide) rfl (Nat.le_of_ble_eq_true rfl) (fun X g hq => ?_)
  show WA X g RX7 8 cX7_oddsBy 0 [(0, vC 53), (1, vI cord), (2, vI cup)] [] mu
  have pu : rg (tget mu 9 0 1) (-9) 9 := part_rg hS 0 1 (Or.inl rfl)
  have pv : rg (tget mu 9 0 2) (-9) 9 := part_rg hS 0 2 (Or.inr rfl)
  refine o_aload_n dX7_oddsBy_0 rfl rfl (by rfl) ?_
  refine o_getC (q := 1) cl_X7_9 dX7_oddsBy_1 rfl (by decide) (by rfl) (by rfl) ?_
  refine o_getC (q := 9) cl_X7_17 dX7_oddsBy_4 rfl (by decide) (by rfl) (by rfl) ?_
  refine o_iconst (v := 0) dX7_oddsBy_7 rfl (by decide) ?_
  refine o_iconst (v := 1) dX7_oddsBy_8 rfl (by decide) ?_
  refine o_callV cs_X6_get cv_X7_85 (c_X6_get 9 6 3 tab9 _ hS.t9 0 1) hq.2.2.2 (Nat.le_of_ble_eq_true rfl) dX7_oddsBy_9 rfl (by decide) (by rfl) (by rfl) (by rfl) rfl rfl (Nat.le_of_ble_eq_true rfl) (fun r1 mu1 h1 => ?_)
  obtain ⟨em, h1⟩ := h1
  rw [em]
  subst h1
  refine o_istore_n (L' := [(0, vC 53), (1, vI cord), (2, vI cup), (3, vI (tget mu 9 0 1))]) dX7_oddsBy_12 rfl rfl (by decide) (by rfl) (by rfl) ?_
  refine o_aload_n dX7_oddsBy_13 rfl rfl (by rfl) ?_
  refine o_getC (q := 1) cl_X7_9 dX7_oddsBy_14 rfl (by decide) (by rfl) (by rfl) ?_
  refine o_getC (q := 9) cl_X7_17 dX7_oddsBy_17 rfl (by decide) (by rfl) (by rfl) ?_
  refine o_iconst (v := 0) dX7_oddsBy_20 rfl (by decide) ?_
  refine o_iconst (v := 2) dX7_oddsBy_21 rfl (by decide) ?_
  refine o_callV cs_X6_get cv_X7_85 (c_X6_get 9 6 3 tab9 _ hS.t9 0 2) hq.2.2.2 (Nat.le_of_ble_eq_true rfl) dX7_oddsBy_22 rfl (by decide) (by rfl) (by rfl) (by rfl) rfl rfl (Nat.le_of_ble_eq_true rfl) (fun r2 mu2 h2 => ?_)
  obtain ⟨em, h2⟩ := h2
  rw [em]
  subst h2
  refine o_istore (L' := [(0, vC 53), (1, vI cord), (2, vI cup), (3, vI (tget mu 9 0 1)), (4, vI (tget mu 9 0 2))]) dX7_oddsBy_25 rfl (by decide) (by rfl) (by rfl) ?_
  refine o_iconst (v := 0) dX7_oddsBy_27 rfl (by decide) ?_
  refine o_istore (L' := [(0, vC 53), (1, vI cord), (2, vI cup), (3, vI (tget mu 9 0 1)), (4, vI (tget mu 9 0 2)), (5, vI 0)]) dX7_oddsBy_28 rfl (by decide) (by rfl) (by rfl) ?_
  refine o_iconst (v := (-1)) dX7_oddsBy_30 rfl (by decide) ?_
  refine o_istore (L' := [(0, vC 53), (1, vI cord), (2, vI cup), (3, vI (tget mu 9 0 1)), (4, vI (tget mu 9 0 2)), (5, vI 0), (6, vI ((-1)))]) dX7_oddsBy_31 rfl (by decide) (by rfl) (by rfl) ?_
  have LP33 : ∀ (nLP33 : Nat) (a : Nat) (m : Mu) , (a ≤ 3) → (fr2 mu m) → (3 < a + nLP33) → WA X g RX7 8 cX7_oddsBy 33 [(0, vC 53), (1, vI cord), (2, vI cup), (3, vI (tget mu 9 0 1)), (4, vI (tget mu 9 0 2)), (5, vI (odS mu cord cup (3 * a))), (6, vI (nI a - 1))] [] m := by
    intro nLP33
    induction nLP33 with
    | zero =>
      intro a m ha0 hF hm
      exact absurd hm (by omega)
    | succ nLP33 ihLP33 =>
      intro a m ha0 hF hm
      refine o_iload dX7_oddsBy_33 rfl (by rfl) ?_
      refine o_iconst (v := 1) dX7_oddsBy_35 rfl (by decide) ?_
      refine o_icmp_gt (tgt := 98) dX7_oddsBy_36 (by decide) rfl (fun (c36 : 1 < (nI a - 1)) => ?_) (fun (c36 : ¬ 1 < (nI a - 1)) => ?_)
      · skip
        have e3 := (du_lt a (by omega)).mp c36
        refine o_iload dX7_oddsBy_98 rfl (by rfl) ?_
        exact o_iret hq dX7_oddsBy_100 ⟨hF, by rw [e3]⟩
      · skip
        have ha : a < 3 := Nat.lt_of_le_of_ne ha0 (fun e => c36 ((du_lt a (by omega)).mpr e))
        refine o_iconst (v := (-1)) dX7_oddsBy_39 rfl (by decide) ?_
        refine o_istore (L' := [(0, vC 53), (1, vI cord), (2, vI cup), (3, vI (tget mu 9 0 1)), (4, vI (tget mu 9 0 2)), (5, vI (odS mu cord cup (3 * a))), (6, vI (nI a - 1)), (7, vI ((-1)))]) dX7_oddsBy_40 rfl (by decide) (by rfl) (by rfl) ?_
        have LP42 : ∀ (nLP42 : Nat) (b : Nat) (m2 : Mu) , (b ≤ 3) → (fr2 mu m2) → (3 < b + nLP42) → WA X g RX7 8 cX7_oddsBy 42 [(0, vC 53), (1, vI cord), (2, vI cup), (3, vI (tget mu 9 0 1)), (4, vI (tget mu 9 0 2)), (5, vI (odS mu cord cup (3 * a + b))), (6, vI (nI a - 1)), (7, vI (nI b - 1))] [] m2 := by
          intro nLP42
          induction nLP42 with
          | zero =>
            intro b m2 hb0 hF2 hm2
            exact absurd hm2 (by omega)
          | succ nLP42 ihLP42 =>
            intro b m2 hb0 hF2 hm2
            refine o_iload dX7_oddsBy_42 rfl (by rfl) ?_
            refine o_iconst (v := 1) dX7_oddsBy_44 rfl (by decide) ?_
            refine o_icmp_gt (tgt := 92) dX7_oddsBy_45 (by decide) rfl (fun (c45 : 1 < (nI b - 1)) => ?_) (fun (c45 : ¬ 1 < (nI b - 1)) => ?_)
            · skip
              have e3 := (du_lt b (by omega)).mp c45
              refine o_iinc (v := nI (a + 1) - 1) (L' := [(0, vC 53), (1, vI cord), (2, vI cup), (3, vI (tget mu 9 0 1)), (4, vI (tget mu 9 0 2)), (5, vI (odS mu cord cup (3 * a + b))), (6, vI (nI (a + 1) - 1)), (7, vI (nI b - 1))]) dX7_oddsBy_92 rfl (by rfl) (by exact (show nI a - 1 + 1 = nI (a + 1) - 1 by rw [← nI_1]; grind)) (by decide) (by rfl) (by rfl) ?_
              refine o_goto (tgt := 33) dX7_oddsBy_95 (by decide) ?_
              refine o_pick (L' := [(0, vC 53), (1, vI cord), (2, vI cup), (3, vI (tget mu 9 0 1)), (4, vI (tget mu 9 0 2)), (5, vI (odS mu cord cup (3 * a + b))), (6, vI (nI (a + 1) - 1))]) [0, 1, 2, 3, 4, 5, 6] (by rfl) ?_
              rw [show 3 * a + b = 3 * (a + 1) by omega]
              exact ihLP33 (a + 1) _ (by omega) hF2 (by omega)
            · skip
              have hb : b < 3 := Nat.lt_of_le_of_ne hb0 (fun e => c45 ((du_lt b (by omega)).mpr e))
              refine o_aload_n dX7_oddsBy_48 rfl rfl (by rfl) ?_
              refine o_iload_n dX7_oddsBy_49 rfl rfl (by rfl) ?_
              refine o_iload_n dX7_oddsBy_50 rfl rfl (by rfl) ?_
              refine o_iload dX7_oddsBy_51 rfl (by rfl) ?_
              refine o_iadd dX7_oddsBy_53 rfl ?_
              refine o_iload dX7_oddsBy_54 rfl (by rfl) ?_
              refine o_iload dX7_oddsBy_56 rfl (by rfl) ?_
              refine o_iadd dX7_oddsBy_58 rfl ?_
              refine o_callV cs_X7_endBy cv_X7_101 (c_X7_endBy m2 (hS.cg (fun q h1 h2 => hF2 q (by omega) (by omega))) cord _ _ hcd (du_rg pu a ha) (du_rg pv b hb)) hq.2.2.2 (Nat.le_of_ble_eq_true rfl) dX7_oddsBy_59 rfl (by decide) (by rfl) (by rfl) (by rfl) rfl rfl (Nat.le_of_ble_eq_true rfl) (fun r59 m59 h59 => ?_)
              have hF3 : fr2 mu m59 := fun q q1 q2 => by rw [h59.1 q q1 q2, hF2 q q1 q2]
              have hr := h59.2
              rw [tv_cg hS.t9 (fun q h1 h2 => hF2 q (by omega) (by omega))] at hr
              refine o_iload_n dX7_oddsBy_62 rfl rfl (by rfl) ?_
              refine o_icmp_ne (tgt := 86) dX7_oddsBy_63 (by decide) rfl (fun (c63 : ¬ r59 = cup) => ?_) (fun (c63 : r59 = cup) => ?_)
              · skip
                refine o_iinc (v := nI (b + 1) - 1) (L' := [(0, vC 53), (1, vI cord), (2, vI cup), (3, vI (tget mu 9 0 1)), (4, vI (tget mu 9 0 2)), (5, vI (odS mu cord cup (3 * a + b))), (6, vI (nI a - 1)), (7, vI (nI (b + 1) - 1))]) dX7_oddsBy_86 rfl (by rfl) (by exact (show nI b - 1 + 1 = nI (b + 1) - 1 by rw [← nI_1]; grind)) (by decide) (by rfl) (by rfl) ?_
                refine o_goto (tgt := 42) dX7_oddsBy_89 (by decide) ?_
                rw [show odS mu cord cup (3 * a + b) = odS mu cord cup (3 * a + (b + 1)) by show _ = odS mu cord cup (3 * a + b) + odT mu cord cup (3 * a + b); rw [odT_at hb, ← hr, if_neg c63]; grind]
                exact ihLP42 (b + 1) _ (by omega) hF3 (by omega)
              · skip
                refine o_iload dX7_oddsBy_66 rfl (by rfl) ?_
                refine o_iconst (v := 2) dX7_oddsBy_68 rfl (by decide) ?_
                refine o_iload dX7_oddsBy_69 rfl (by rfl) ?_
                refine o_mabs (d := 5) mt_X7_105 hq.2.2.2 dX7_oddsBy_71 rfl (Nat.le_of_ble_eq_true rfl) ?_
                refine o_isub dX7_oddsBy_74 rfl ?_
                refine o_iconst (v := 2) dX7_oddsBy_75 rfl (by decide) ?_
                refine o_iload dX7_oddsBy_76 rfl (by rfl) ?_
                refine o_mabs (d := 5) mt_X7_105 hq.2.2.2 dX7_oddsBy_78 rfl (Nat.le_of_ble_eq_true rfl) ?_
                refine o_isub dX7_oddsBy_81 rfl ?_
                refine o_imul dX7_oddsBy_82 rfl ?_
                refine o_iadd dX7_oddsBy_83 rfl ?_
                refine o_istore (L' := [(0, vC 53), (1, vI cord), (2, vI cup), (3, vI (tget mu 9 0 1)), (4, vI (tget mu 9 0 2)), (5, vI ((odS mu cord cup (3 * a + b)) + ((2 - (ab (nI a - 1))) * (2 - (ab (nI b - 1)))))), (6, vI (nI a - 1)), (7, vI (nI b - 1))]) dX7_oddsBy_84 rfl (by decide) (by rfl) (by rfl) ?_
                refine o_iinc (v := nI (b + 1) - 1) (L' := [(0, vC 53), (1, vI cord), (2, vI cup), (3, vI (tget mu 9 0 1)), (4, vI (tget mu 9 0 2)), (5, vI ((odS mu cord cup (3 * a + b)) + ((2 - (ab (nI a - 1))) * (2 - (ab (nI b - 1)))))), (6, vI (nI a - 1)), (7, vI (nI (b + 1) - 1))]) dX7_oddsBy_86 rfl (by rfl) (by exact (show nI b - 1 + 1 = nI (b + 1) - 1 by rw [← nI_1]; grind)) (by decide) (by rfl) (by rfl) ?_
                refine o_goto (tgt := 42) dX7_oddsBy_89 (by decide) ?_
                rw [show (odS mu cord cup (3 * a + b)) + ((2 - (ab (nI a - 1))) * (2 - (ab (nI b - 1)))) = odS mu cord cup (3 * a + (b + 1)) by show _ = odS mu cord cup (3 * a + b) + odT mu cord cup (3 * a + b); rw [odT_at hb, ← hr, if_pos c63, ← du_ab a ha b hb]]
                exact ihLP42 (b + 1) _ (by omega) hF3 (by omega)
        rw [show (-1 : Int32) = nI 0 - 1 by decide]
        exact LP42 4 0 _ (by omega) hF (by omega)
  rw [show (-1 : Int32) = nI 0 - 1 by decide]
  exact LP33 4 0 _ (by omega) (fun _ _ _ => rfl) (by omega)
