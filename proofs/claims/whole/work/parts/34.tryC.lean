/-! ===== Try.goStep ===== -/
def rdT (m : Mu) (j : Nat) : Int32 := if j = 0 then m 53 6 else if j = 1 then m 53 7 else if j = 2 then m 53 8 else if j = 3 then m 53 9 else if j = 4 then m 53 10 else if j = 5 then m 53 11 else if j = 6 then m 54 7 else if j = 7 then m 54 8 else if j = 8 then m 53 12 else if j = 9 then m 53 14 else if j = 10 then m 53 15 else if j = 11 then m 53 16 else if j = 12 then m 53 13 else if j = 13 then m 54 5 else m 54 6
def rdE (m : Mu) (j : Nat) : Int32 := if j = 0 then m 53 2 else if j = 1 then m 2 1 else if j = 2 then m 2 2 else if j = 3 then m 53 3 else if j = 4 then m 53 4 else m 53 5
def hst (mu : Mu) (fu fv : Int32) : Nat → Vc
  | 0 => hbeg fu fv
  | n + 1 => hgoF mu 0 (hst mu fu fv n)
def hU (mu : Mu) (fu fv : Int32) : Vc := fun n => hgoU mu (hst mu fu fv n)
def hV (mu : Mu) (fu fv : Int32) : Vc := fun n => hgoV mu (hst mu fu fv n)
theorem hmid_cg {mu : Mu} {f g : Vc} (h : ∀ j, 0 < j → j < 5 → f j = g j) : hmid mu f = hmid mu g := by
  unfold hmid
  rw [h 3 (by decide) (by decide), h 4 (by decide) (by decide)]
theorem hgoU_cg {mu : Mu} {f g : Vc} (h : ∀ j, 0 < j → j < 5 → f j = g j) : hgoU mu f = hgoU mu g := by
  unfold hgoU
  rw [hmid_cg h, h 1 (by decide) (by decide)]
theorem hgoV_cg {mu : Mu} {f g : Vc} (h : ∀ j, 0 < j → j < 5 → f j = g j) : hgoV mu f = hgoV mu g := by
  unfold hgoV
  rw [hmid_cg h, h 2 (by decide) (by decide)]
theorem hgoF_cg {mu : Mu} {f g : Vc} {a b : Int32} (h : ∀ j, 0 < j → j < 5 → f j = g j) : ∀ j, 0 < j → j < 5 → hgoF mu a f j = hgoF mu b g j := by
  intro j h1 h2
  match j, h1, h2 with
  | 1, _, _ => exact h 1 (by decide) (by decide)
  | 2, _, _ => exact h 2 (by decide) (by decide)
  | 3, _, _ => show (hmid mu f).1 = (hmid mu g).1; rw [hmid_cg h]
  | 4, _, _ => show (if ¬ (hmid mu f).2 ≤ 0 then (hmid mu f).2 - 1 else (hmid mu f).2) = (if ¬ (hmid mu g).2 ≤ 0 then (hmid mu g).2 - 1 else (hmid mu g).2); rw [hmid_cg h]
  | j + 5, _, h2 => omega
def Step (E : Vc) (C : Nat → Vc) (nc : Nat) (U V : Vc) (n : Nat) (s t : Vc) : Prop := ∃ f g k : Vc,
  (f 6 = s 0 + s 2 ∧ f 7 = s 1 + (s 3 - E 1) ∧ f 8 = s 2 ∧ f 9 = s 3 - E 1 ∧ f 10 = s 4 ∧ f 11 = s 5 ∧ f 16 = s 11 ∧ f 14 = s 9 ∧ f 15 = s 10) ∧
  (t 13 = sSide E C s + U n ∧ t 14 = V n ∧ t 6 = s 6 + t 13 ∧ t 7 = s 7 + t 14) ∧
  Hold (E 0) (t 6) (t 7) (t 13) f g ∧
  (((E 3 = 0 ∨ metC C nc (s 1 - s 7) (g 6 - t 6) (g 7 - t 7) = -1) ∧ k = g) ∨ (¬ E 3 = 0 ∧ ∃ i, i < nc ∧ metC C nc (s 1 - s 7) (g 6 - t 6) (g 7 - t 7) = nI i ∧ Land (E 2) (C i) (t 6) (t 13) (nI i) g k)) ∧
  (t 0 = k 6 ∧ t 1 = k 7 ∧ t 2 = k 8 ∧ t 3 = k 9 ∧ t 4 = k 10 ∧ t 5 = k 11 ∧ t 8 = k 12 ∧ t 9 = k 14 ∧ t 10 = k 15 ∧ t 11 = k 16 ∧ t 12 = s 12 + 1)
theorem metC_cg {C D : Nat → Vc} {nc : Nat} {a x y : Int32} (h : ∀ i, i < nc → C i = D i) : metC C nc a x y = metC D nc a x y := by
  have key : ∀ i, i < nc → (cupIn C a x y i ↔ cupIn D a x y i) := fun i hi => by
    unfold cupIn
    rw [h i hi]
  have he : ∀ r, FsP (cupIn C a x y) nc r ↔ FsP (cupIn D a x y) nc r := fun r => by
    constructor
    · rintro (⟨i, h1, h2, h3, h4⟩ | ⟨h1, h2⟩)
      · exact Or.inl ⟨i, h1, h2, (key i h1).mp h3, fun j hj q => h4 j hj ((key j (by omega)).mpr q)⟩
      · exact Or.inr ⟨h1, fun i hi q => h2 i hi ((key i hi).mpr q)⟩
    · rintro (⟨i, h1, h2, h3, h4⟩ | ⟨h1, h2⟩)
      · exact Or.inl ⟨i, h1, h2, (key i h1).mpr h3, fun j hj q => h4 j hj ((key j (by omega)).mp q)⟩
      · exact Or.inr ⟨h1, fun i hi q => h2 i hi ((key i hi).mp q)⟩
  unfold metC fstc
  congr 1
  funext r
  exact propext (he r)
theorem fsp_ex (P : Nat → Prop) : ∀ n, ∃ r, FsP P n r := by
  intro n
  induction n with
  | zero => exact ⟨-1, Or.inr ⟨rfl, fun i h => by omega⟩⟩
  | succ n ih =>
    obtain ⟨r, hr⟩ := ih
    rcases hr with ⟨i, h1, h2, h3, h4⟩ | ⟨h1, h2⟩
    · exact ⟨r, Or.inl ⟨i, by omega, h2, h3, h4⟩⟩
    · by_cases hp : P n
      · exact ⟨nI n, Or.inl ⟨n, by omega, rfl, hp, fun j hj => h2 j hj⟩⟩
      · refine ⟨-1, Or.inr ⟨rfl, fun i hi => ?_⟩⟩
        by_cases e : i = n
        · rw [e]; exact hp
        · exact h2 i (by omega)
theorem metC_sp (C : Nat → Vc) (nc : Nat) (a x y : Int32) : FsP (cupIn C a x y) nc (metC C nc a x y) := by
  obtain ⟨r, hr⟩ := fsp_ex (cupIn C a x y) nc
  unfold metC
  rw [fstc_is hr]
  exact hr
theorem metC_i {C : Nat → Vc} {nc : Nat} {a x y : Int32} (h : ¬ metC C nc a x y = -1) : ∃ i, i < nc ∧ metC C nc a x y = nI i := by
  rcases metC_sp C nc a x y with ⟨i, h1, h2, -⟩ | ⟨h1, -⟩
  · exact ⟨i, h1, h2⟩
  · exact absurd h1 h
theorem goStep_fin {mu m1 m2 m3 m4 mu2 : Mu} {nc n : Nat} {fu fv r18 : Int32} (hz : nc ≤ 4) (ez : mu 3 2 = nI nc) (hO9 : TOK mu 9 6 3) (hh : ∀ j, 0 < j → j < 5 → mu 54 j = hst mu fu fv n j)
    (h18 : r18 = sSide (rdE mu) (cupC mu) (rdT mu)) (h21 : (∀ q, q ≠ 54 → m1 q = mu q) ∧ ∀ j, 0 < j → j < 9 → m1 54 j = hgoF mu r18 (mu 54) j)
    (e2 : m2 = upF (upF (upF m1 53 9 (m1 53 9 - m1 2 1)) 53 6 (m1 53 6 + m1 53 8)) 53 7 (m1 53 7 + (m1 53 9 - m1 2 1)))
    (h69 : (∀ q, q ≠ 53 → m3 q = m2 q) ∧ Hold (m2 53 2) (m2 54 7) (m2 54 8) (m2 54 5) (m2 53) (m3 53))
    (h4 : (∀ q, q ≠ 53 → m4 q = m3 q) ∧ (((m3 53 3 = 0 ∨ metC (cupC m3) nc (mu 53 7 - mu 54 8) (m3 53 6 - m3 54 7) (m3 53 7 - m3 54 8) = -1) ∧ m4 = m3) ∨ (¬ m3 53 3 = 0 ∧ ∃ i, i < nc ∧ metC (cupC m3) nc (mu 53 7 - mu 54 8) (m3 53 6 - m3 54 7) (m3 53 7 - m3 54 8) = nI i ∧ Land (m3 2 2) (cupC m3 i) (m3 54 7) (m3 54 5) (nI i) (m3 53) (m4 53))))
    (e5 : mu2 = upF m4 53 13 (m4 53 13 + 1)) :
    (∀ q, q ≠ 53 → q ≠ 54 → mu2 q = mu q) ∧ (∀ j, 1 < j → j < 6 → mu2 53 j = mu 53 j) ∧ (∀ j, 0 < j → j < 5 → mu2 54 j = hst mu fu fv (n + 1) j) ∧ Step (rdE mu) (cupC mu) nc (hU mu fu fv) (hV mu fu fv) n (rdT mu) (rdT mu2) := by
  obtain ⟨a1, a2⟩ := h21
  obtain ⟨b1, b2⟩ := h69
  obtain ⟨c1, c2⟩ := h4
  have m53 : m1 53 = mu 53 := a1 53 (by decide)
  have m02 : m1 2 = mu 2 := a1 2 (by decide)
  have e54 : m2 54 = m1 54 := by rw [e2]; rfl
  have f54 : m3 54 = m1 54 := by rw [b1 54 (by decide), e54]
  have g54 : mu2 54 = m1 54 := by rw [e5]; show m4 54 = _; rw [c1 54 (by decide), f54]
  have k2 : ∀ j, j ≠ 6 → j ≠ 7 → j ≠ 9 → m2 53 j = mu 53 j := fun j h6 h7 h9 => by
    rw [e2, ← m53]
    simp [upF, upM, upd, h6, h7, h9]
  have k3 : ∀ j, j ≠ 6 → j ≠ 7 → j ≠ 8 → j ≠ 9 → j ≠ 10 → j ≠ 11 → j ≠ 12 → j ≠ 16 → m3 53 j = mu 53 j := fun j h6 h7 h8 h9 h10 h11 h12 h16 => by
    rw [b2.1 j h6 h7 h8 h9 h10 h11 h12 h16, k2 j h6 h7 h9]
  have k4 : ∀ j, j ≠ 9 → j ≠ 14 → j ≠ 15 → m4 53 j = m3 53 j := fun j h9 h14 h15 => by
    rcases c2 with ⟨-, rfl⟩ | ⟨-, i, -, -, hL⟩
    · rfl
    · exact hL.1 j h9 h14 h15
  have k5 : ∀ j, j ≠ 13 → mu2 53 j = m4 53 j := fun j h => by
    rw [e5]
    simp [upF, upM, upd, h]
  have fr : ∀ q, q ≠ 53 → q ≠ 54 → mu2 q = mu q := fun q h53 h54 => by
    rw [e5, upF_k h53, c1 q h53, b1 q h53, e2, upF_k h53, upF_k h53, upF_k h53, a1 q h54]
  have cc : ∀ i, i < nc → cupC m3 i = cupC mu i := fun i hi => by
    funext j
    show m3 (5 + i) j = mu (5 + i) j
    rw [b1 (5 + i) (by omega), e2, upF_k (by omega), upF_k (by omega), upF_k (by omega), a1 (5 + i) (by omega)]
  have u5 : m1 54 5 = sSide (rdE mu) (cupC mu) (rdT mu) + hU mu fu fv n := by
    rw [a2 5 (by decide) (by decide), ← h18]
    show r18 + hgoU mu (mu 54) = r18 + hgoU mu (hst mu fu fv n)
    rw [hgoU_cg hh]
  have u6 : m1 54 6 = hV mu fu fv n := by
    rw [a2 6 (by decide) (by decide)]
    show hgoV mu (mu 54) = hgoV mu (hst mu fu fv n)
    rw [hgoV_cg hh]
  have u7 : m1 54 7 = mu 54 7 + m1 54 5 := by
    rw [a2 7 (by decide) (by decide), a2 5 (by decide) (by decide)]
    rfl
  have u8 : m1 54 8 = mu 54 8 + m1 54 6 := by
    rw [a2 8 (by decide) (by decide), a2 6 (by decide) (by decide)]
    rfl
  have s2 : m3 2 2 = mu 2 2 := by rw [b1 2 (by decide), e2]; show m1 2 2 = _; rw [m02]
  have i3 : m3 53 3 = mu 53 3 := k3 3 (by decide) (by decide) (by decide) (by decide) (by decide) (by decide) (by decide) (by decide)
  refine ⟨fr, fun j h1 h2 => ?_, fun j h1 h2 => ?_, m2 53, m3 53, m4 53, ?_, ?_, ?_, ?_, ?_⟩
  · rw [k5 j (by omega), k4 j (by omega) (by omega) (by omega), k3 j (by omega) (by omega) (by omega) (by omega) (by omega) (by omega) (by omega) (by omega)]
  · rw [g54, a2 j h1 (by omega)]
    exact hgoF_cg hh j h1 h2
  · refine ⟨by rw [e2]; show m1 53 6 + m1 53 8 = _; rw [m53]; rfl, by rw [e2]; show m1 53 7 + (m1 53 9 - m1 2 1) = _; rw [m53, m02]; rfl, k2 8 (by decide) (by decide) (by decide), by rw [e2]; show m1 53 9 - m1 2 1 = _; rw [m53, m02]; rfl, k2 10 (by decide) (by decide) (by decide), k2 11 (by decide) (by decide) (by decide), k2 16 (by decide) (by decide) (by decide), k2 14 (by decide) (by decide) (by decide), k2 15 (by decide) (by decide) (by decide)⟩
  · show mu2 54 5 = _ ∧ mu2 54 6 = _ ∧ mu2 54 7 = mu 54 7 + mu2 54 5 ∧ mu2 54 8 = mu 54 8 + mu2 54 6
    rw [g54]
    exact ⟨u5, u6, u7, u8⟩
  · have h := b2
    rw [e54, k2 2 (by decide) (by decide) (by decide)] at h
    show Hold (mu 53 2) (mu2 54 7) (mu2 54 8) (mu2 54 5) (m2 53) (m3 53)
    rw [g54]
    exact h
  · show ((mu 53 3 = 0 ∨ metC (cupC mu) nc (mu 53 7 - mu 54 8) (m3 53 6 - mu2 54 7) (m3 53 7 - mu2 54 8) = -1) ∧ m4 53 = m3 53) ∨ (¬ mu 53 3 = 0 ∧ ∃ i, i < nc ∧ metC (cupC mu) nc (mu 53 7 - mu 54 8) (m3 53 6 - mu2 54 7) (m3 53 7 - mu2 54 8) = nI i ∧ Land (mu 2 2) (cupC mu i) (mu2 54 7) (mu2 54 5) (nI i) (m3 53) (m4 53))
    rw [g54, ← f54, ← metC_cg cc, ← i3, ← s2]
    rcases c2 with ⟨h, rfl⟩ | ⟨h, i, hi, hm, hL⟩
    · exact Or.inl ⟨h, rfl⟩
    · exact Or.inr ⟨h, i, hi, hm, by rw [← cc i hi]; exact hL⟩
  · show mu2 53 6 = _ ∧ mu2 53 7 = _ ∧ mu2 53 8 = _ ∧ mu2 53 9 = _ ∧ mu2 53 10 = _ ∧ mu2 53 11 = _ ∧ mu2 53 12 = _ ∧ mu2 53 14 = _ ∧ mu2 53 15 = _ ∧ mu2 53 16 = _ ∧ mu2 53 13 = mu 53 13 + 1
    refine ⟨k5 6 (by decide), k5 7 (by decide), k5 8 (by decide), k5 9 (by decide), k5 10 (by decide), k5 11 (by decide), k5 12 (by decide), k5 14 (by decide), k5 15 (by decide), k5 16 (by decide), ?_⟩
    rw [e5, upF_s, k4 13 (by decide) (by decide) (by decide), k3 13 (by decide) (by decide) (by decide) (by decide) (by decide) (by decide) (by decide) (by decide)]
theorem side_eq {mu : Mu} {nc : Nat} {r : Int32} (hO3 : TOK mu 3 4 5) (hz : nc ≤ 4) (ez : mu 3 2 = nI nc) (hlc : mu 53 4 = -1 ∨ ∃ lc, lc < nc ∧ mu 53 4 = nI lc) (h : r = if mu 53 4 = -1 ∨ mu 53 13 < mu 53 5 ∨ ¬ mu 53 12 = 0 then 0 else cmp3 (mu 53 6 - mu 54 7) (tget mu 3 (mu 53 4) 0)) : r = sSide (rdE mu) (cupC mu) (rdT mu) := by
  rw [h]
  show _ = if mu 53 4 = -1 ∨ mu 53 13 < mu 53 5 ∨ ¬ mu 53 12 = 0 then 0 else cmp3 (mu 53 6 - mu 54 7) (cupC mu (mu 53 4).toNatClampNeg 0)
  by_cases e : mu 53 4 = -1 ∨ mu 53 13 < mu 53 5 ∨ ¬ mu 53 12 = 0
  · rw [if_pos e, if_pos e]
  · rw [if_neg e, if_neg e]
    rcases hlc with q | ⟨lc, hl, q⟩
    · exact absurd (Or.inl q) e
    · rw [q, nI_clamp (by omega)]
      congr 1
      exact tget_in (j := 0) ez hO3.1 hl (by omega) (by omega) (by omega)
set_option maxHeartbeats 4000000 in
set_option maxRecDepth 100000 in
theorem c_X7_goStep (mu : Mu) (nc n : Nat) (fu fv : Int32) (hO3 : TOK mu 3 4 5) (hz : nc ≤ 4) (ez : mu 3 2 = nI nc) (hO9 : TOK mu 9 6 3) (hh : ∀ j, 0 < j → j < 5 → mu 54 j = hst mu fu fv n j) (hlc : mu 53 4 = -1 ∨ ∃ lc, lc < nc ∧ mu 53 4 = nI lc) (cd S : Nat) (hcd : mu 53 2 = nI cd) (h1 : 1 ≤ cd) (h60 : cd ≤ 60) (hS2 : S ≤ 1000000) (hS : sSq (mu 53 6 + mu 53 8 - (mu 54 7 + (sSide (rdE mu) (cupC mu) (rdT mu) + hU mu fu fv n))) (mu 53 7 + (mu 53 9 - mu 2 1) - (mu 54 8 + hV mu fu fv n)) = nI S) : ConV yX7_goStep cX7_goStep 3 3 [vC 53] mu (fun mu2 => (∀ q, q ≠ 53 → q ≠ 54 → mu2 q = mu q) ∧ (∀ j, 1 < j → j < 6 → mu2 53 j = mu 53 j) ∧ (∀ j, 0 < j → j < 5 → mu2 54 j = hst mu fu fv (n + 1) j) ∧ Step (rdE mu) (cupC mu) nc (hU mu fu fv) (hV mu fu fv) n (rdT mu) (rdT mu2)) := by
  refine conV_of (own := RX7) (by decide) rfl (Nat.le_of_ble_eq_true rfl) (fun X g hq => ?_)
  show WA X g RX7 3 cX7_goStep 0 [(0, vC 53)] [] mu
  refine o_aload_n dX7_goStep_0 rfl rfl (by rfl) ?_
  refine o_getI cl_X7_51 dX7_goStep_1 rfl (by decide) (by rfl) (by rfl) ?_
  refine o_aload_n dX7_goStep_4 rfl rfl (by rfl) ?_
  refine o_getC (q := 54) cl_X7_26 dX7_goStep_5 rfl (by decide) (by rfl) (by rfl) ?_
  refine o_getI cl_X7_117 dX7_goStep_8 rfl (by decide) (by rfl) (by rfl) ?_
  refine o_isub dX7_goStep_11 rfl ?_
  refine o_istore_n (L' := [(0, vC 53), (1, vI ((mu 53 7) - (mu 54 8)))]) dX7_goStep_12 rfl rfl (by decide) (by rfl) (by rfl) ?_
  refine o_aload_n dX7_goStep_13 rfl rfl (by rfl) ?_
  refine o_getC (q := 54) cl_X7_26 dX7_goStep_14 rfl (by decide) (by rfl) (by rfl) ?_
  refine o_aload_n dX7_goStep_17 rfl rfl (by rfl) ?_
  refine o_callV cs_X7_lateSide cv_X7_118 (c_X7_lateSide mu hO3) hq.2.2.2 (Nat.le_of_ble_eq_true rfl) dX7_goStep_18 rfl (by decide) (by rfl) (by rfl) (by rfl) rfl rfl (Nat.le_of_ble_eq_true rfl) (fun r18 mu1 h1 => ?_)
  obtain ⟨em, h18⟩ := h1
  rw [em]
  have h18 := side_eq hO3 hz ez hlc h18
  refine o_callVV cs_X1_go cv_X7_122 (c_X1_go mu hO9 r18) hq.2.2.2 (Nat.le_of_ble_eq_true rfl) dX7_goStep_21 rfl (by decide) (by rfl) (by rfl) (by rfl) rfl rfl (Nat.le_of_ble_eq_true rfl) (fun m21 h21 => ?_)
  have m53 : m21 53 = mu 53 := h21.1 53 (by decide)
  have m02 : m21 2 = mu 2 := h21.1 2 (by decide)
  have u7 : m21 54 7 = mu 54 7 + (sSide (rdE mu) (cupC mu) (rdT mu) + hU mu fu fv n) := by rw [h21.2 7 (by decide) (by decide), ← h18]; show mu 54 7 + (r18 + hgoU mu (mu 54)) = _; rw [hgoU_cg hh]; rfl
  have u8 : m21 54 8 = mu 54 8 + hV mu fu fv n := by rw [h21.2 8 (by decide) (by decide)]; show mu 54 8 + hgoV mu (mu 54) = _; rw [hgoV_cg hh]; rfl
  refine o_aload_n dX7_goStep_24 rfl rfl (by rfl) ?_
  refine o_dup dX7_goStep_25 rfl rfl ?_
  refine o_getI cl_X7_57 dX7_goStep_26 rfl (by decide) (by rfl) (by rfl) ?_
  refine o_aload_n dX7_goStep_29 rfl rfl (by rfl) ?_
  refine o_getC (q := 1) cl_X7_9 dX7_goStep_30 rfl (by decide) (by rfl) (by rfl) ?_
  refine o_getC (q := 2) cl_X7_81 dX7_goStep_33 rfl (by decide) (by rfl) (by rfl) ?_
  refine o_iconst (v := 1) dX7_goStep_36 rfl (by decide) ?_
  refine o_iald dX7_goStep_37 rfl (by decide) (by rfl) (by rfl) (vp_in_nI (n := 1) (by decide) (by decide)) ?_
  refine o_isub dX7_goStep_38 rfl ?_
  refine o_put cl_X7_57 cp_X7_9 dX7_goStep_39 rfl (by decide) (by rfl) (by rfl) fitI ?_
  refine o_aload_n dX7_goStep_42 rfl rfl (by rfl) ?_
  refine o_dup dX7_goStep_43 rfl rfl ?_
  refine o_getI cl_X7_48 dX7_goStep_44 rfl (by decide) (by rfl) (by rfl) ?_
  refine o_aload_n dX7_goStep_47 rfl rfl (by rfl) ?_
  refine o_getI cl_X7_54 dX7_goStep_48 rfl (by decide) (by rfl) (by rfl) ?_
  refine o_iadd dX7_goStep_51 rfl ?_
  refine o_put cl_X7_48 cp_X7_6 dX7_goStep_52 rfl (by decide) (by rfl) (by rfl) fitI ?_
  refine o_aload_n dX7_goStep_55 rfl rfl (by rfl) ?_
  refine o_dup dX7_goStep_56 rfl rfl ?_
  refine o_getI cl_X7_51 dX7_goStep_57 rfl (by decide) (by rfl) (by rfl) ?_
  refine o_aload_n dX7_goStep_60 rfl rfl (by rfl) ?_
  refine o_getI cl_X7_57 dX7_goStep_61 rfl (by decide) (by rfl) (by rfl) ?_
  refine o_iadd dX7_goStep_64 rfl ?_
  refine o_put cl_X7_51 cp_X7_7 dX7_goStep_65 rfl (by decide) (by rfl) (by rfl) fitI ?_
  refine o_aload_n dX7_goStep_68 rfl rfl (by rfl) ?_
  refine o_callVV cs_X7_holdByCord cv_X7_125 (c_X7_holdByCord _ S cd (by show sSq (m21 53 6 + m21 53 8 - m21 54 7) (m21 53 7 + (m21 53 9 - m21 2 1) - m21 54 8) = nI S; rw [m53, m02, u7, u8]; exact hS) hS2 (by show m21 53 2 = nI cd; rw [m53]; exact hcd) h1 h60) hq.2.2.2 (Nat.le_of_ble_eq_true rfl) dX7_goStep_69 rfl (by decide) (by rfl) (by rfl) (by rfl) rfl rfl (Nat.le_of_ble_eq_true rfl) (fun m69 h69 => ?_)
  have t3 : ∀ q, q ≠ 53 → q ≠ 54 → m69 q = mu q := fun q a b => by rw [h69.1 q a]; show upF _ _ _ _ q = _; rw [upF_k a, upF_k a, upF_k a, h21.1 q b]
  have hO3m : TOK m69 3 4 5 := TOK.cg (t3 3 (by decide) (by decide)) hO3
  have ezm : m69 3 2 = nI nc := by rw [t3 3 (by decide) (by decide)]; exact ez
  have J88 : ∀ (c : Int32), ((m69 53 3 = 0 ∧ c = -1) ∨ (¬ m69 53 3 = 0 ∧ c = metC (cupC m69) nc (mu 53 7 - mu 54 8) (m69 53 6 - m69 54 7) (m69 53 7 - m69 54 8))) → WA X g RX7 3 cX7_goStep 88 [(0, vC 53), (1, vI ((mu 53 7) - (mu 54 8)))] [vI c] m69 := by
    intro c hc
    refine o_istore_n (L' := [(0, vC 53), (1, vI ((mu 53 7) - (mu 54 8))), (2, vI c)]) dX7_goStep_88 rfl rfl (by decide) (by rfl) (by rfl) ?_
    refine o_iload_n dX7_goStep_89 rfl rfl (by rfl) ?_
    refine o_iconst (v := (-1)) dX7_goStep_90 rfl (by decide) ?_
    refine o_icmp_eq (tgt := 99) dX7_goStep_91 (by decide) rfl (fun (c91 : c = ((-1))) => ?_) (fun (c91 : ¬ c = ((-1))) => ?_)
    · skip
      refine o_aload_n dX7_goStep_99 rfl rfl (by rfl) ?_
      refine o_dup dX7_goStep_100 rfl rfl ?_
      refine o_getI cl_X7_69 dX7_goStep_101 rfl (by decide) (by rfl) (by rfl) ?_
      refine o_iconst (v := 1) dX7_goStep_104 rfl (by decide) ?_
      refine o_iadd dX7_goStep_105 rfl ?_
      refine o_put cl_X7_69 cp_X7_13 dX7_goStep_106 rfl (by decide) (by rfl) (by rfl) fitI ?_
      exact o_vret hq dX7_goStep_109 (goStep_fin hz ez hO9 hh h18 h21 rfl h69 ⟨fun q _ => rfl, Or.inl ⟨hc.elim (fun h => Or.inl h.1) (fun h => Or.inr (by rw [← h.2]; exact c91)), rfl⟩⟩ rfl)
    · skip
      have hc2 := hc.resolve_left (fun h => c91 h.2)
      have c91b := c91
      rw [hc2.2] at c91b
      obtain ⟨i, hi, ei⟩ := metC_i c91b
      rw [show c = nI i from hc2.2.trans ei]
      refine o_aload_n dX7_goStep_94 rfl rfl (by rfl) ?_
      refine o_iload_n dX7_goStep_95 rfl rfl (by rfl) ?_
      refine o_callVV cs_X7_comeDownOn cv_X7_131 (c_X7_comeDownOn m69 nc i hO3m hz ezm hi) hq.2.2.2 (Nat.le_of_ble_eq_true rfl) dX7_goStep_96 rfl (by decide) (by rfl) (by rfl) (by rfl) rfl rfl (Nat.le_of_ble_eq_true rfl) (fun m96 h96 => ?_)
      refine o_aload_n dX7_goStep_99 rfl rfl (by rfl) ?_
      refine o_dup dX7_goStep_100 rfl rfl ?_
      refine o_getI cl_X7_69 dX7_goStep_101 rfl (by decide) (by rfl) (by rfl) ?_
      refine o_iconst (v := 1) dX7_goStep_104 rfl (by decide) ?_
      refine o_iadd dX7_goStep_105 rfl ?_
      refine o_put cl_X7_69 cp_X7_13 dX7_goStep_106 rfl (by decide) (by rfl) (by rfl) fitI ?_
      exact o_vret hq dX7_goStep_109 (goStep_fin hz ez hO9 hh h18 h21 rfl h69 ⟨h96.1, Or.inr ⟨hc2.1, i, hi, ei, h96.2⟩⟩ rfl)
  refine o_aload_n dX7_goStep_72 rfl rfl (by rfl) ?_
  refine o_getI cl_X7_38 dX7_goStep_73 rfl (by decide) (by rfl) (by rfl) ?_
  refine o_if_eq (tgt := 87) dX7_goStep_76 (by decide) rfl (fun (c76 : (m69 53 3) = 0) => ?_) (fun (c76 : ¬ (m69 53 3) = 0) => ?_)
  · skip
    refine o_iconst (v := (-1)) dX7_goStep_87 rfl (by decide) ?_
    exact J88 _ (Or.inl ⟨c76, rfl⟩)
  · skip
    refine o_aload_n dX7_goStep_79 rfl rfl (by rfl) ?_
    refine o_iload_n dX7_goStep_80 rfl rfl (by rfl) ?_
    refine o_callV cs_X7_metCup cv_X7_128 (c_X7_metCup m69 nc hO3m hz ezm (mu 53 7 - mu 54 8)) hq.2.2.2 (Nat.le_of_ble_eq_true rfl) dX7_goStep_81 rfl (by decide) (by rfl) (by rfl) (by rfl) rfl rfl (Nat.le_of_ble_eq_true rfl) (fun r81 mu5 h5 => ?_)
    obtain ⟨em, h81⟩ := h5
    rw [em]
    subst h81
    refine o_goto (tgt := 88) dX7_goStep_84 (by decide) ?_
    exact J88 _ (Or.inr ⟨c76, rfl⟩)
