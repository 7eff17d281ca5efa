/-! ===== the reference: cells ===== -/
abbrev FBP (f : Vc) (cup : Int32) : Nat → Prop := fun j => FB f cup j = true
def GI (f : Vc) (cup : Int32) (g : Vc) (k : Nat) : Prop := ∀ i, i < k → (FB f cup i = true → ∃ l, g i = nI l ∧ l ≤ i ∧ FB f cup l = true ∧ ∃ n, Rn (FBP f cup) n i l) ∧ (¬ FB f cup i = true → g i = -4)
def newN (k t b : Nat) : Prop := (t = 0 ∧ b + 10 = k) ∨ (t = 1 ∧ b = k + 10) ∨ (t = 2 ∧ b + 1 = k) ∨ (t = 3 ∧ b = k + 1)
def LB (f : Vc) (cup : Int32) (g : Vc) (k t : Nat) (y : Int32) : Prop := (FB f cup k = true → ∃ l l0, y = nI l ∧ g k = nI l0 ∧ l ≤ l0 ∧ l0 ≤ k ∧ FB f cup l = true ∧ (∃ n, Rn (FBP f cup) n k l) ∧ ∀ s, s < t → ∀ b, newN k s b → adj k b → FB f cup b = true → ∃ lb, g b = nI lb ∧ l ≤ lb ∧ lb ≤ b) ∧ (¬ FB f cup k = true → y = -4)
theorem LB.beg {f : Vc} {cup : Int32} {g : Vc} {k : Nat} (h : GI f cup g 90) (hk : k < 90) : LB f cup g k 0 (g k) := by
  obtain ⟨h1, h2⟩ := h k hk
  refine ⟨fun hB => ?_, h2⟩
  obtain ⟨l, e, hl, hb, hn⟩ := h1 hB
  exact ⟨l, l, e, e, Nat.le_refl _, hl, hb, hn, fun s hs => by omega⟩
theorem LB.no {f : Vc} {cup : Int32} {g : Vc} {k t : Nat} {y : Int32} (hG : GI f cup g 90) (h : LB f cup g k t y) (hs : ∀ b lb, newN k t b → adj k b → FB f cup b = true → g b = nI lb → lb ≤ b → y ≤ nI lb) : LB f cup g k (t + 1) y := by
  refine ⟨fun hB => ?_, h.2⟩
  obtain ⟨l, l0, e1, e2, h1, h2, h3, h4, h5⟩ := h.1 hB
  refine ⟨l, l0, e1, e2, h1, h2, h3, h4, fun s hs9 b hb ha hBb => ?_⟩
  by_cases e : s = t
  · subst e
    have hb9 := (FB_t hBb).1
    have hk9 := (FB_t hB).1
    obtain ⟨lb, e3, h6, -⟩ := (hG b hb9).1 hBb
    have := hs b lb hb ha hBb e3 h6
    rw [e1] at this
    exact ⟨lb, e3, nI_dec2 this (by omega) (by omega), h6⟩
  · exact h5 s (by omega) b hb ha hBb
theorem LB.yes {f : Vc} {cup : Int32} {g : Vc} {k t b : Nat} {y : Int32} (hG : GI f cup g 90) (hk : k < 90) (h : LB f cup g k t y) (hb9 : b < 90) (ha : adj k b) (hu : ∀ b', newN k t b' → b' = b) (h0 : ¬ g b < 0) (h1 : g b < y) : LB f cup g k (t + 1) (g b) := by
  have hBb : FB f cup b = true := by
    cases q : FB f cup b
    · exact absurd (by rw [(hG b hb9).2 (by rw [q]; decide)]; decide) h0
    · rfl
  obtain ⟨lb, e3, h6, h7, n7, r7⟩ := (hG b hb9).1 hBb
  have hB : FB f cup k = true := by
    cases q : FB f cup k
    · rw [h.2 (by rw [q]; decide), e3, i_lt, nI_toInt (by omega)] at h1
      have : (-4 : Int32).toInt = -4 := rfl
      omega
    · rfl
  obtain ⟨l, l0, e1, e2, h1', h2, h3, h4, h5⟩ := h.1 hB
  rw [e3, e1] at h1
  have hlt := (nI_ltI (by omega) (by omega)).mp h1
  refine ⟨fun _ => ⟨lb, l0, e3, e2, by omega, h2, h7, ⟨n7 + 1, r7.pre ha hBb⟩, fun s hs9 b' hb' ha' hBb' => ?_⟩, fun q => absurd hB q⟩
  by_cases e : s = t
  · subst e
    rw [hu b' hb']
    exact ⟨lb, e3, Nat.le_refl _, h6⟩
  · obtain ⟨lb', e4, h8, h9⟩ := h5 s (by omega) b' hb' ha' hBb'
    exact ⟨lb', e4, by omega, h9⟩
def smN (g : Vc) : Nat → Nat
  | 0 => 0
  | n + 1 => smN g n + (g n).toNatClampNeg
theorem smN_upd {g : Vc} {k : Nat} {y : Int32} : ∀ {n : Nat}, k < n → smN (upd g k y) n + (g k).toNatClampNeg = smN g n + y.toNatClampNeg
  | n + 1, h => by
    show smN (upd g k y) n + (upd g k y n).toNatClampNeg + (g k).toNatClampNeg = smN g n + (g n).toNatClampNeg + y.toNatClampNeg
    by_cases e : k = n
    · subst e
      have : smN (upd g k y) k = smN g k := by
        have key : ∀ n, n ≤ k → smN (upd g k y) n = smN g n := by
          intro n
          induction n with
          | zero => intro _; rfl
          | succ n ih =>
            intro hn
            show smN (upd g k y) n + (upd g k y n).toNatClampNeg = smN g n + (g n).toNatClampNeg
            rw [ih (by omega), upd_n (by omega)]
        exact key k (Nat.le_refl _)
      rw [this, upd_s]
      omega
    · have := smN_upd (g := g) (y := y) (n := n) (show k < n by omega)
      rw [upd_n (show n ≠ k by omega)]
      omega
theorem smN_le {g : Vc} : ∀ {n : Nat}, (∀ i, i < n → (g i).toNatClampNeg ≤ 90) → smN g n ≤ 90 * n
  | 0, _ => Nat.le_refl _
  | n + 1, h => by
    have := smN_le (n := n) (fun i hi => h i (by omega))
    have := h n (by omega)
    show smN g n + (g n).toNatClampNeg ≤ 90 * (n + 1)
    omega
theorem LB.gi {f : Vc} {cup : Int32} {g : Vc} {k : Nat} {y : Int32} (hk : k < 90) (hG : GI f cup g 90) (h : LB f cup g k 4 y) : GI f cup (upd g k y) 90 ∧ y.toNatClampNeg ≤ (g k).toNatClampNeg ∧ (¬ g k ≤ y → y.toNatClampNeg < (g k).toNatClampNeg) ∧ (g k ≤ y → y = g k) := by
  refine ⟨fun i hi => ?_, ?_⟩
  · by_cases e : i = k
    · subst e
      rw [upd_s]
      refine ⟨fun hB => ?_, h.2⟩
      obtain ⟨l, l0, e1, e2, h1, h2, h3, h4, -⟩ := h.1 hB
      exact ⟨l, e1, by omega, h3, h4⟩
    · rw [upd_n e]; exact hG i hi
  · cases q : FB f cup k
    · have e1 := h.2 (by rw [q]; decide)
      have e2 := (hG k hk).2 (by rw [q]; decide)
      rw [e1, e2]
      exact ⟨Nat.le_refl _, fun h9 => absurd (by decide) h9, fun _ => rfl⟩
    · obtain ⟨l, l0, e1, e2, h1, h2, -⟩ := h.1 q
      rw [e1, e2, nI_clamp (by omega), nI_clamp (by omega)]
      refine ⟨h1, fun h9 => ?_, fun h9 => ?_⟩
      · exact nI_dec h9 (by omega) (by omega)
      · have := nI_dec2 h9 (by omega) (by omega)
        rw [show l = l0 by omega]
/-- within a pass over the labels that began with g0 -/
def PSS (f : Vc) (cup : Int32) (g0 g : Vc) (k : Nat) (x : Int32) : Prop := GI f cup g 90 ∧ ((x = 0 ∧ (∀ i, i < 90 → g i = g0 i) ∧ ∀ i, i < k → FB f cup i = true → ∀ b, adj i b → FB f cup b = true → ∃ li lb, g0 i = nI li ∧ g0 b = nI lb ∧ li ≤ lb ∧ li ≤ i ∧ lb ≤ b) ∨ (¬ x = 0 ∧ smN g 90 < smN g0 90))
theorem adj_new {k b : Nat} (h : adj k b) : ∃ s, s < 4 ∧ newN k s b := by
  rcases h with h | h | h | h
  · exact ⟨3, by decide, Or.inr (Or.inr (Or.inr ⟨rfl, h.1⟩))⟩
  · exact ⟨2, by decide, Or.inr (Or.inr (Or.inl ⟨rfl, h.1⟩))⟩
  · exact ⟨1, by decide, Or.inr (Or.inl ⟨rfl, h⟩)⟩
  · exact ⟨0, by decide, Or.inl ⟨rfl, h⟩⟩
theorem PSS.go {f : Vc} {cup : Int32} {g0 g : Vc} {k : Nat} {x y x2 : Int32} (hk : k < 90) (h : PSS f cup g0 g k x) (hL : LB f cup g k 4 y) (hx : (x2 = 1 ∧ (¬ x = 0 ∨ ¬ g k ≤ y)) ∨ (x2 = 0 ∧ x = 0 ∧ g k ≤ y)) : PSS f cup g0 (upd g k y) (k + 1) x2 := by
  obtain ⟨h1, h2⟩ := h
  obtain ⟨l1, l2, l3, l4⟩ := hL.gi hk h1
  have hs := smN_upd (g := g) (y := y) (n := 90) hk
  refine ⟨l1, ?_⟩
  have e01 : ∀ {g0 g : Vc}, (∀ i, i < 90 → g i = g0 i) → smN g 90 = smN g0 90 := by
    intro g0 g hg
    have key : ∀ n, n ≤ 90 → smN g n = smN g0 n := by
      intro n
      induction n with
      | zero => intro _; rfl
      | succ n ih =>
        intro hn
        show smN g n + (g n).toNatClampNeg = smN g0 n + (g0 n).toNatClampNeg
        rw [ih (by omega), hg n (by omega)]
    exact key 90 (Nat.le_refl _)
  rcases hx with ⟨ex, hx⟩ | ⟨ex, hx, hy⟩
  · refine Or.inr ⟨by rw [ex]; decide, ?_⟩
    rcases h2 with ⟨a1, a2, -⟩ | ⟨a1, a2⟩
    · rcases hx with hx | hx
      · exact absurd a1 hx
      · have := l3 hx
        have := e01 a2
        omega
    · omega
  · refine Or.inl ⟨ex, ?_⟩
    rcases h2 with ⟨a1, a2, a3⟩ | ⟨a1, a2⟩
    · have ey := l4 hy
      have eg : ∀ i, upd g k y i = g i := fun i => by
        by_cases e : i = k
        · rw [e, upd_s]; exact ey
        · exact upd_n e
      refine ⟨fun i hi => (eg i).trans (a2 i hi), fun i hi hB b ha hBb => ?_⟩
      by_cases e : i = k
      · subst e
        obtain ⟨l, l0, e1, e2, h3, h4, -, -, h5⟩ := hL.1 hB
        obtain ⟨s, hs4, hs5⟩ := adj_new ha
        obtain ⟨lb, e6, h7, h8⟩ := h5 s hs4 b hs5 ha hBb
        have hb9 := (FB_t hBb).1
        rw [← a2 i (by omega), ← a2 b hb9]
        refine ⟨l0, lb, e2, e6, ?_, h4, h8⟩
        rw [e1, e2] at ey
        have := (nI_eq (by omega) (by omega)).mp ey
        omega
      · exact a3 i (by omega) hB b ha hBb
    · exact absurd hx a1
/-- no label could be lowered -/
theorem PSS.lab {f : Vc} {cup : Int32} {g0 g : Vc} (h : PSS f cup g0 g 90 0) : Lab (FBP f cup) (fun i => (g i).toNatClampNeg) ∧ ∀ i, i < 90 → g i = if FB f cup i = true then nI (g i).toNatClampNeg else -4 := by
  obtain ⟨h1, h2⟩ := h
  obtain ⟨-, h3, h4⟩ := h2.resolve_right (fun h => h.1 rfl)
  refine ⟨⟨fun k hk => ?_, fun a b ha hb hab => ?_⟩, fun i hi => ?_⟩
  · have hk9 := (FB_t hk).1
    obtain ⟨l, e1, h5, h6, h7⟩ := (h1 k hk9).1 hk
    show FB f cup (g k).toNatClampNeg = true ∧ (∃ n, Rn (FBP f cup) n k (g k).toNatClampNeg) ∧ (g k).toNatClampNeg ≤ k
    rw [e1, nI_clamp (by omega)]
    exact ⟨h6, h7, h5⟩
  · have ha9 := (FB_t ha).1
    have hb9 := (FB_t hb).1
    obtain ⟨l1, l2, e1, e2, q1, q2, q3⟩ := h4 a ha9 ha b hab hb
    obtain ⟨l3, l4, e3, e4, q4, q5, q6⟩ := h4 b hb9 hb a hab.sy ha
    have f1 : l2 = l3 := (nI_eq (by omega) (by omega)).mp (e2.symm.trans e3)
    have f2 : l1 = l4 := (nI_eq (by omega) (by omega)).mp (e1.symm.trans e4)
    show (g a).toNatClampNeg = (g b).toNatClampNeg
    rw [h3 a ha9, h3 b hb9, e1, e2, nI_clamp (by omega), nI_clamp (by omega)]
    omega
  · cases q : FB f cup i
    · exact (h1 i hi).2 (by rw [q]; decide)
    · obtain ⟨l, e1, h5, -⟩ := (h1 i hi).1 q
      rw [if_pos rfl, e1, nI_clamp (by omega)]
theorem nI_lt0 {l : Nat} (h : l < 2 ^ 31) : ¬ nI l < 0 := nI_nlt (b := 0) (by omega) h
theorem rem10 : ∀ k, k < 90 → ((nI k - nI k / 10 * 10 ≤ 0 ↔ k % 10 = 0) ∧ ((9 : Int32) ≤ nI k - nI k / 10 * 10 ↔ k % 10 = 9)) := by decide +kernel
theorem nI_le9 {k : Nat} (h : k ≤ 9) : nI k ≤ (9 : Int32) := by
  rw [i_le, nI_toInt (by omega)]
  have : (9 : Int32).toInt = 9 := rfl
  omega
theorem GI.in {f : Vc} {cup : Int32} {g g2 : Vc} {k : Nat} (hk : k < 90) (h : GI f cup g k) (hg : ∀ i, i < k → g2 i = g i) (h2 : (f k = cup ∧ g2 k = nI k) ∨ (¬ f k = cup ∧ g2 k = -4)) : GI f cup g2 (k + 1) := by
  intro i hi
  by_cases e : i = k
  · subst e
    rcases h2 with ⟨a, b⟩ | ⟨a, b⟩
    · have hB := FB_i hk a
      exact ⟨fun _ => ⟨i, b, Nat.le_refl _, hB, 0, rfl⟩, fun q => absurd hB q⟩
    · exact ⟨fun q => absurd (FB_t q).2 a, fun _ => b⟩
  · rw [hg i (by omega)]; exact h i (by omega)
set_option maxHeartbeats 4000000 in
set_option maxRecDepth 100000 in
theorem c_X9_groups (mu : Mu) (cup : Int32) : ConV yX9_groups cX9_groups 5 0 [vC 94, vI cup] mu (fun mu2 => (∀ q, q ≠ 106 → mu2 q = mu q) ∧ ∃ l, Lab (FBP (mu 104) cup) l ∧ ∀ i, i < 90 → mu2 106 i = if FB (mu 104) cup i = true then nI (l i) else -4) := by
  refine conV_of (own := RX9) (by decide) rfl (Nat.le_of_ble_eq_true rfl) (fun X g hq => ?_)
  show WA X g RX9 5 cX9_groups 0 [(0, vC 94), (1, vI cup)] [] mu
  refine o_iconst (v := 0) dX9_groups_0 rfl (by decide) ?_
  refine o_istore_n (L' := [(0, vC 94), (1, vI cup), (2, vI 0)]) dX9_groups_1 rfl rfl (by decide) (by rfl) (by rfl) ?_
  have LP2 : ∀ (nLP2 : Nat) (k : Nat) (m : Mu) , (k ≤ 90) → (∀ q, q ≠ 106 → m q = mu q) → (GI (mu 104) cup (m 106) k) → (90 < k + nLP2) → WA X g RX9 5 cX9_groups 2 [(0, vC 94), (1, vI cup), (2, vI (nI k))] [] m := by
    intro nLP2
    induction nLP2 with
    | zero =>
      intro k m hk hF hG hm
      exact absurd hm (by omega)
    | succ nLP2 ihLP2 =>
      intro k m hk hF hG hm
      refine o_iload_n dX9_groups_2 rfl rfl (by rfl) ?_
      refine o_bipush (v := 90) dX9_groups_3 rfl (by decide) ?_
      refine o_icmp_ge (tgt := 36) dX9_groups_5 (by decide) rfl (fun (c5 : 90 ≤ (nI k)) => ?_) (fun (c5 : ¬ 90 ≤ (nI k)) => ?_)
      · skip
        have hk2 := nI_dec2 (b := 90) c5 (by omega) (by decide)
        have e2 : k = 90 := by omega
        refine o_iconst (v := 1) dX9_groups_36 rfl (by decide) ?_
        refine o_istore_n (L' := [(0, vC 94), (1, vI cup), (2, vI 1)]) dX9_groups_37 rfl rfl (by decide) (by rfl) (by rfl) ?_
        have LP38 : ∀ (nLP38 : Nat) (x0 : Int32) (m0 : Mu) , (∀ q, q ≠ 106 → m0 q = mu q) → (GI (mu 104) cup (m0 106) 90) → (x0 = 0 → ∃ g0, PSS (mu 104) cup g0 (m0 106) 90 0) → (0 < nLP38) → (¬ x0 = 0 → smN (m0 106) 90 + 1 < nLP38) → WA X g RX9 5 cX9_groups 38 [(0, vC 94), (1, vI cup), (2, vI x0)] [] m0 := by
          intro nLP38
          induction nLP38 with
          | zero =>
            intro x0 m0 hF0 hG0 hx0 hm0 hm1
            exact absurd hm0 (by omega)
          | succ nLP38 ihLP38 =>
            intro x0 m0 hF0 hG0 hx0 hm0 hm1
            refine o_iload_n dX9_groups_38 rfl rfl (by rfl) ?_
            refine o_if_eq (tgt := 288) dX9_groups_39 (by decide) rfl (fun (c39 : x0 = 0) => ?_) (fun (c39 : ¬ x0 = 0) => ?_)
            · skip
              exact o_vret hq dX9_groups_288 (by obtain ⟨g0, h9⟩ := hx0 c39; exact ⟨hF0, _, h9.lab⟩)
            · skip
              refine o_iconst (v := 0) dX9_groups_42 rfl (by decide) ?_
              refine o_istore_n (L' := [(0, vC 94), (1, vI cup), (2, vI 0)]) dX9_groups_43 rfl rfl (by decide) (by rfl) (by rfl) ?_
              refine o_iconst (v := 0) dX9_groups_44 rfl (by decide) ?_
              refine o_istore_n (L' := [(0, vC 94), (1, vI cup), (2, vI 0), (3, vI 0)]) dX9_groups_45 rfl rfl (by decide) (by rfl) (by rfl) ?_
              have LP46 : ∀ (nLP46 : Nat) (k : Nat) (x : Int32) (m : Mu) , (k ≤ 90) → (∀ q, q ≠ 106 → m q = mu q) → (PSS (mu 104) cup (m0 106) (m 106) k x) → (90 < k + nLP46) → WA X g RX9 5 cX9_groups 46 [(0, vC 94), (1, vI cup), (2, vI x), (3, vI (nI k))] [] m := by
                intro nLP46
                induction nLP46 with
                | zero =>
                  intro k x m hk hF hS hm
                  exact absurd hm (by omega)
                | succ nLP46 ihLP46 =>
                  intro k x m hk hF hS hm
                  refine o_iload_n dX9_groups_46 rfl rfl (by rfl) ?_
                  refine o_bipush (v := 90) dX9_groups_47 rfl (by decide) ?_
                  refine o_icmp_ge (tgt := 285) dX9_groups_49 (by decide) rfl (fun (c49 : 90 ≤ (nI k)) => ?_) (fun (c49 : ¬ 90 ≤ (nI k)) => ?_)
                  · skip
                    have hk2 := nI_dec2 (b := 90) c49 (by omega) (by decide)
                    have e2 : k = 90 := by omega
                    refine o_goto (tgt := 38) dX9_groups_285 (by decide) ?_
                    refine o_pick (L' := [(0, vC 94), (1, vI cup), (2, vI x)]) [0, 1, 2] (by rfl) ?_
                    exact ihLP38 x m hF hS.1 (fun h9 => ⟨m0 106, by rw [e2, h9] at hS; exact hS⟩) (by have := hm1 c39; omega) (fun h9 => by have := hm1 c39; rcases hS.2 with h8 | h8; exact absurd h8.1 h9; have := h8.2; omega)
                  · skip
                    have hk2 := nI_dec (b := 90) c49 (by omega) (by decide)
                    refine o_aload_n dX9_groups_52 rfl rfl (by rfl) ?_
                    refine o_getC (q := 106) cl_X9_47 dX9_groups_53 rfl (by decide) (by rfl) (by rfl) ?_
                    refine o_iload_n dX9_groups_56 rfl rfl (by rfl) ?_
                    refine o_iald dX9_groups_57 rfl (by decide) (by rfl) (by rfl) (vp_in_nI hk2 (by decide)) ?_
                    refine o_istore (L' := [(0, vC 94), (1, vI cup), (2, vI x), (3, vI (nI k)), (4, vI (m 106 (nI k).toNatClampNeg))]) dX9_groups_58 rfl (by decide) (by rfl) (by rfl) ?_
                    have J250 : ∀ (y : Int32), (LB (mu 104) cup (m 106) k 4 y) → WA X g RX9 5 cX9_groups 250 [(0, vC 94), (1, vI cup), (2, vI x), (3, vI (nI k)), (4, vI y)] [] m := by
                      intro y hL4
                      refine o_iload_n dX9_groups_250 rfl rfl (by rfl) ?_
                      refine o_if_ne (tgt := 265) dX9_groups_251 (by decide) rfl (fun (c251 : ¬ x = 0) => ?_) (fun (c251 : x = 0) => ?_)
                      · skip
                        refine o_iconst (v := 1) dX9_groups_265 rfl (by decide) ?_
                        refine o_goto (tgt := 270) dX9_groups_266 (by decide) ?_
                        refine o_istore_n (L' := [(0, vC 94), (1, vI cup), (2, vI 1), (3, vI (nI k)), (4, vI y)]) dX9_groups_270 rfl rfl (by decide) (by rfl) (by rfl) ?_
                        refine o_aload_n dX9_groups_271 rfl rfl (by rfl) ?_
                        refine o_getC (q := 106) cl_X9_47 dX9_groups_272 rfl (by decide) (by rfl) (by rfl) ?_
                        refine o_iload_n dX9_groups_275 rfl rfl (by rfl) ?_
                        refine o_iload dX9_groups_276 rfl (by rfl) ?_
                        refine o_iast dX9_groups_278 rfl (by decide) (by rfl) (by rfl) (vp_in_nI hk2 (by decide)) ?_
                        refine o_iinc (v := nI (k + 1)) (L' := [(0, vC 94), (1, vI cup), (2, vI 1), (3, vI (nI (k + 1))), (4, vI y)]) dX9_groups_279 rfl (by rfl) (by exact nI_1 k) (by decide) (by rfl) (by rfl) ?_
                        refine o_goto (tgt := 46) dX9_groups_282 (by decide) ?_
                        refine o_pick (L' := [(0, vC 94), (1, vI cup), (2, vI 1), (3, vI (nI (k + 1)))]) [0, 1, 2, 3] (by rfl) ?_
                        exact ihLP46 (k + 1) _ _ (by omega) (fun q hq9 => by rw [upF_k hq9]; exact hF q hq9) (by rw [nI_clamp (by omega)]; show PSS (mu 104) cup (m0 106) (upF m 106 k y 106) (k + 1) _; rw [show upF m 106 k y 106 = upd (m 106) k y from upM_s]; exact hS.go hk2 hL4 (Or.inl ⟨rfl, Or.inl c251⟩)) (by omega)
                      · skip
                        refine o_iload dX9_groups_254 rfl (by rfl) ?_
                        refine o_aload_n dX9_groups_256 rfl rfl (by rfl) ?_
                        refine o_getC (q := 106) cl_X9_47 dX9_groups_257 rfl (by decide) (by rfl) (by rfl) ?_
                        refine o_iload_n dX9_groups_260 rfl rfl (by rfl) ?_
                        refine o_iald dX9_groups_261 rfl (by decide) (by rfl) (by rfl) (vp_in_nI hk2 (by decide)) ?_
                        refine o_icmp_ge (tgt := 269) dX9_groups_262 (by decide) rfl (fun (c262 : (m 106 (nI k).toNatClampNeg) ≤ y) => ?_) (fun (c262 : ¬ (m 106 (nI k).toNatClampNeg) ≤ y) => ?_)
                        · skip
                          refine o_iconst (v := 0) dX9_groups_269 rfl (by decide) ?_
                          refine o_istore_n (L' := [(0, vC 94), (1, vI cup), (2, vI 0), (3, vI (nI k)), (4, vI y)]) dX9_groups_270 rfl rfl (by decide) (by rfl) (by rfl) ?_
                          refine o_aload_n dX9_groups_271 rfl rfl (by rfl) ?_
                          refine o_getC (q := 106) cl_X9_47 dX9_groups_272 rfl (by decide) (by rfl) (by rfl) ?_
                          refine o_iload_n dX9_groups_275 rfl rfl (by rfl) ?_
                          refine o_iload dX9_groups_276 rfl (by rfl) ?_
                          refine o_iast dX9_groups_278 rfl (by decide) (by rfl) (by rfl) (vp_in_nI hk2 (by decide)) ?_
                          refine o_iinc (v := nI (k + 1)) (L' := [(0, vC 94), (1, vI cup), (2, vI 0), (3, vI (nI (k + 1))), (4, vI y)]) dX9_groups_279 rfl (by rfl) (by exact nI_1 k) (by decide) (by rfl) (by rfl) ?_
                          refine o_goto (tgt := 46) dX9_groups_282 (by decide) ?_
                          refine o_pick (L' := [(0, vC 94), (1, vI cup), (2, vI 0), (3, vI (nI (k + 1)))]) [0, 1, 2, 3] (by rfl) ?_
                          exact ihLP46 (k + 1) _ _ (by omega) (fun q hq9 => by rw [upF_k hq9]; exact hF q hq9) (by rw [nI_clamp (by omega)]; show PSS (mu 104) cup (m0 106) (upF m 106 k y 106) (k + 1) _; rw [show upF m 106 k y 106 = upd (m 106) k y from upM_s]; exact hS.go hk2 hL4 (Or.inr ⟨rfl, c251, by rw [nI_clamp (by omega)] at c262; exact c262⟩)) (by omega)
                        · skip
                          refine o_iconst (v := 1) dX9_groups_265 rfl (by decide) ?_
                          refine o_goto (tgt := 270) dX9_groups_266 (by decide) ?_
                          refine o_istore_n (L' := [(0, vC 94), (1, vI cup), (2, vI 1), (3, vI (nI k)), (4, vI y)]) dX9_groups_270 rfl rfl (by decide) (by rfl) (by rfl) ?_
                          refine o_aload_n dX9_groups_271 rfl rfl (by rfl) ?_
                          refine o_getC (q := 106) cl_X9_47 dX9_groups_272 rfl (by decide) (by rfl) (by rfl) ?_
                          refine o_iload_n dX9_groups_275 rfl rfl (by rfl) ?_
                          refine o_iload dX9_groups_276 rfl (by rfl) ?_
                          refine o_iast dX9_groups_278 rfl (by decide) (by rfl) (by rfl) (vp_in_nI hk2 (by decide)) ?_
                          refine o_iinc (v := nI (k + 1)) (L' := [(0, vC 94), (1, vI cup), (2, vI 1), (3, vI (nI (k + 1))), (4, vI y)]) dX9_groups_279 rfl (by rfl) (by exact nI_1 k) (by decide) (by rfl) (by rfl) ?_
                          refine o_goto (tgt := 46) dX9_groups_282 (by decide) ?_
                          refine o_pick (L' := [(0, vC 94), (1, vI cup), (2, vI 1), (3, vI (nI (k + 1)))]) [0, 1, 2, 3] (by rfl) ?_
                          exact ihLP46 (k + 1) _ _ (by omega) (fun q hq9 => by rw [upF_k hq9]; exact hF q hq9) (by rw [nI_clamp (by omega)]; show PSS (mu 104) cup (m0 106) (upF m 106 k y 106) (k + 1) _; rw [show upF m 106 k y 106 = upd (m 106) k y from upM_s]; exact hS.go hk2 hL4 (Or.inl ⟨rfl, Or.inr (by rw [nI_clamp (by omega)] at c262; exact c262)⟩)) (by omega)
                    have J202 : ∀ (y : Int32), (LB (mu 104) cup (m 106) k 3 y) → WA X g RX9 5 cX9_groups 202 [(0, vC 94), (1, vI cup), (2, vI x), (3, vI (nI k)), (4, vI y)] [] m := by
                      intro y hL3
                      refine o_iload_n dX9_groups_202 rfl rfl (by rfl) ?_
                      refine o_bipush (v := 10) dX9_groups_203 rfl (by decide) ?_
                      refine o_irem dX9_groups_205 rfl (by decide) ?_
                      refine o_bipush (v := 9) dX9_groups_206 rfl (by decide) ?_
                      refine o_icmp_ge (tgt := 246) dX9_groups_208 (by decide) rfl (fun (c208 : 9 ≤ ((nI k) - (nI k) / 10 * 10)) => ?_) (fun (c208 : ¬ 9 ≤ ((nI k) - (nI k) / 10 * 10)) => ?_)
                      · skip
                        refine o_iload dX9_groups_246 rfl (by rfl) ?_
                        refine o_istore (L' := [(0, vC 94), (1, vI cup), (2, vI x), (3, vI (nI k)), (4, vI y)]) dX9_groups_248 rfl (by decide) (by rfl) (by rfl) ?_
                        exact J250 _ (LB.no hS.1 hL3 (fun b lb hn ha hB eb hlb => absurd ((rem10 k hk2).2.mp c208) (by rcases hn with hn | hn | hn | hn <;> rcases ha with ha | ha | ha | ha <;> omega)))
                      · skip
                        have hkm : ¬ k % 10 = 9 := fun h9 => c208 ((rem10 k hk2).2.mpr h9)
                        have hb3 : (nI k + 1).toNatClampNeg = k + 1 := by rw [show nI k + 1 = nI (k + 1) from nI_1 k]; exact nI_clamp (by omega)
                        refine o_aload_n dX9_groups_211 rfl rfl (by rfl) ?_
                        refine o_getC (q := 106) cl_X9_47 dX9_groups_212 rfl (by decide) (by rfl) (by rfl) ?_
                        refine o_iload_n dX9_groups_215 rfl rfl (by rfl) ?_
                        refine o_iconst (v := 1) dX9_groups_216 rfl (by decide) ?_
                        refine o_iadd dX9_groups_217 rfl ?_
                        refine o_iald dX9_groups_218 rfl (by decide) (by rfl) (by rfl) (by rw [show nI k + 1 = nI (k + 1) from nI_1 k]; exact vp_in_nI (by omega) (by decide)) ?_
                        refine o_if_lt (tgt := 246) dX9_groups_219 (by decide) rfl (fun (c219 : (m 106 (nI k + 1).toNatClampNeg) < 0) => ?_) (fun (c219 : ¬ (m 106 (nI k + 1).toNatClampNeg) < 0) => ?_)
                        · skip
                          refine o_iload dX9_groups_246 rfl (by rfl) ?_
                          refine o_istore (L' := [(0, vC 94), (1, vI cup), (2, vI x), (3, vI (nI k)), (4, vI y)]) dX9_groups_248 rfl (by decide) (by rfl) (by rfl) ?_
                          exact J250 _ (LB.no hS.1 hL3 (fun b lb hn ha hB eb hlb => absurd (show nI lb < 0 by rw [← eb, (show b = k + 1 by rcases hn with hn | hn | hn | hn <;> omega), ← hb3]; exact c219) (nI_lt0 (by have := (FB_t hB).1; omega))))
                        · skip
                          refine o_aload_n dX9_groups_222 rfl rfl (by rfl) ?_
                          refine o_getC (q := 106) cl_X9_47 dX9_groups_223 rfl (by decide) (by rfl) (by rfl) ?_
                          refine o_iload_n dX9_groups_226 rfl rfl (by rfl) ?_
                          refine o_iconst (v := 1) dX9_groups_227 rfl (by decide) ?_
                          refine o_iadd dX9_groups_228 rfl ?_
                          refine o_iald dX9_groups_229 rfl (by decide) (by rfl) (by rfl) (by rw [show nI k + 1 = nI (k + 1) from nI_1 k]; exact vp_in_nI (by omega) (by decide)) ?_
                          refine o_iload dX9_groups_230 rfl (by rfl) ?_
                          refine o_icmp_ge (tgt := 246) dX9_groups_232 (by decide) rfl (fun (c232 : y ≤ (m 106 (nI k + 1).toNatClampNeg)) => ?_) (fun (c232 : ¬ y ≤ (m 106 (nI k + 1).toNatClampNeg)) => ?_)
                          · skip
                            refine o_iload dX9_groups_246 rfl (by rfl) ?_
                            refine o_istore (L' := [(0, vC 94), (1, vI cup), (2, vI x), (3, vI (nI k)), (4, vI y)]) dX9_groups_248 rfl (by decide) (by rfl) (by rfl) ?_
                            exact J250 _ (LB.no hS.1 hL3 (fun b lb hn ha hB eb hlb => (show _ ≤ nI lb by rw [← eb, (show b = k + 1 by rcases hn with hn | hn | hn | hn <;> omega), ← hb3]; exact c232)))
                          · skip
                            refine o_aload_n dX9_groups_235 rfl rfl (by rfl) ?_
                            refine o_getC (q := 106) cl_X9_47 dX9_groups_236 rfl (by decide) (by rfl) (by rfl) ?_
                            refine o_iload_n dX9_groups_239 rfl rfl (by rfl) ?_
                            refine o_iconst (v := 1) dX9_groups_240 rfl (by decide) ?_
                            refine o_iadd dX9_groups_241 rfl ?_
                            refine o_iald dX9_groups_242 rfl (by decide) (by rfl) (by rfl) (by rw [show nI k + 1 = nI (k + 1) from nI_1 k]; exact vp_in_nI (by omega) (by decide)) ?_
                            refine o_goto (tgt := 248) dX9_groups_243 (by decide) ?_
                            refine o_istore (L' := [(0, vC 94), (1, vI cup), (2, vI x), (3, vI (nI k)), (4, vI (m 106 (nI k + 1).toNatClampNeg))]) dX9_groups_248 rfl (by decide) (by rfl) (by rfl) ?_
                            rw [hb3] at c219 c232 ⊢
                            exact J250 _ (LB.yes hS.1 hk2 hL3 (by omega) (by unfold adj; omega) (fun b e1 => by rcases e1 with e1 | e1 | e1 | e1 <;> omega) c219 (Int32.not_le.mp c232))
                    have J156 : ∀ (y : Int32), (LB (mu 104) cup (m 106) k 2 y) → WA X g RX9 5 cX9_groups 156 [(0, vC 94), (1, vI cup), (2, vI x), (3, vI (nI k)), (4, vI y)] [] m := by
                      intro y hL2
                      refine o_iload_n dX9_groups_156 rfl rfl (by rfl) ?_
                      refine o_bipush (v := 10) dX9_groups_157 rfl (by decide) ?_
                      refine o_irem dX9_groups_159 rfl (by decide) ?_
                      refine o_if_le (tgt := 198) dX9_groups_160 (by decide) rfl (fun (c160 : ((nI k) - (nI k) / 10 * 10) ≤ 0) => ?_) (fun (c160 : ¬ ((nI k) - (nI k) / 10 * 10) ≤ 0) => ?_)
                      · skip
                        refine o_iload dX9_groups_198 rfl (by rfl) ?_
                        refine o_istore (L' := [(0, vC 94), (1, vI cup), (2, vI x), (3, vI (nI k)), (4, vI y)]) dX9_groups_200 rfl (by decide) (by rfl) (by rfl) ?_
                        exact J202 _ (LB.no hS.1 hL2 (fun b lb hn ha hB eb hlb => absurd ((rem10 k hk2).1.mp c160) (by rcases hn with hn | hn | hn | hn <;> rcases ha with ha | ha | ha | ha <;> omega)))
                      · skip
                        have hkm : ¬ k % 10 = 0 := fun h9 => c160 ((rem10 k hk2).1.mpr h9)
                        have hb2 : (nI k - 1).toNatClampNeg = k - 1 := by rw [show nI k - 1 = nI (k - 1) from pk_sub (b := 1) (by omega)]; exact nI_clamp (by omega)
                        refine o_aload_n dX9_groups_163 rfl rfl (by rfl) ?_
                        refine o_getC (q := 106) cl_X9_47 dX9_groups_164 rfl (by decide) (by rfl) (by rfl) ?_
                        refine o_iload_n dX9_groups_167 rfl rfl (by rfl) ?_
                        refine o_iconst (v := 1) dX9_groups_168 rfl (by decide) ?_
                        refine o_isub dX9_groups_169 rfl ?_
                        refine o_iald dX9_groups_170 rfl (by decide) (by rfl) (by rfl) (by rw [show nI k - 1 = nI (k - 1) from pk_sub (b := 1) (by omega)]; exact vp_in_nI (by omega) (by decide)) ?_
                        refine o_if_lt (tgt := 198) dX9_groups_171 (by decide) rfl (fun (c171 : (m 106 (nI k - 1).toNatClampNeg) < 0) => ?_) (fun (c171 : ¬ (m 106 (nI k - 1).toNatClampNeg) < 0) => ?_)
                        · skip
                          refine o_iload dX9_groups_198 rfl (by rfl) ?_
                          refine o_istore (L' := [(0, vC 94), (1, vI cup), (2, vI x), (3, vI (nI k)), (4, vI y)]) dX9_groups_200 rfl (by decide) (by rfl) (by rfl) ?_
                          exact J202 _ (LB.no hS.1 hL2 (fun b lb hn ha hB eb hlb => absurd (show nI lb < 0 by rw [← eb, (show b = k - 1 by rcases hn with hn | hn | hn | hn <;> omega), ← hb2]; exact c171) (nI_lt0 (by have := (FB_t hB).1; omega))))
                        · skip
                          refine o_aload_n dX9_groups_174 rfl rfl (by rfl) ?_
                          refine o_getC (q := 106) cl_X9_47 dX9_groups_175 rfl (by decide) (by rfl) (by rfl) ?_
                          refine o_iload_n dX9_groups_178 rfl rfl (by rfl) ?_
                          refine o_iconst (v := 1) dX9_groups_179 rfl (by decide) ?_
                          refine o_isub dX9_groups_180 rfl ?_
                          refine o_iald dX9_groups_181 rfl (by decide) (by rfl) (by rfl) (by rw [show nI k - 1 = nI (k - 1) from pk_sub (b := 1) (by omega)]; exact vp_in_nI (by omega) (by decide)) ?_
                          refine o_iload dX9_groups_182 rfl (by rfl) ?_
                          refine o_icmp_ge (tgt := 198) dX9_groups_184 (by decide) rfl (fun (c184 : y ≤ (m 106 (nI k - 1).toNatClampNeg)) => ?_) (fun (c184 : ¬ y ≤ (m 106 (nI k - 1).toNatClampNeg)) => ?_)
                          · skip
                            refine o_iload dX9_groups_198 rfl (by rfl) ?_
                            refine o_istore (L' := [(0, vC 94), (1, vI cup), (2, vI x), (3, vI (nI k)), (4, vI y)]) dX9_groups_200 rfl (by decide) (by rfl) (by rfl) ?_
                            exact J202 _ (LB.no hS.1 hL2 (fun b lb hn ha hB eb hlb => (show _ ≤ nI lb by rw [← eb, (show b = k - 1 by rcases hn with hn | hn | hn | hn <;> omega), ← hb2]; exact c184)))
                          · skip
                            refine o_aload_n dX9_groups_187 rfl rfl (by rfl) ?_
                            refine o_getC (q := 106) cl_X9_47 dX9_groups_188 rfl (by decide) (by rfl) (by rfl) ?_
                            refine o_iload_n dX9_groups_191 rfl rfl (by rfl) ?_
                            refine o_iconst (v := 1) dX9_groups_192 rfl (by decide) ?_
                            refine o_isub dX9_groups_193 rfl ?_
                            refine o_iald dX9_groups_194 rfl (by decide) (by rfl) (by rfl) (by rw [show nI k - 1 = nI (k - 1) from pk_sub (b := 1) (by omega)]; exact vp_in_nI (by omega) (by decide)) ?_
                            refine o_goto (tgt := 200) dX9_groups_195 (by decide) ?_
                            refine o_istore (L' := [(0, vC 94), (1, vI cup), (2, vI x), (3, vI (nI k)), (4, vI (m 106 (nI k - 1).toNatClampNeg))]) dX9_groups_200 rfl (by decide) (by rfl) (by rfl) ?_
                            rw [hb2] at c171 c184 ⊢
                            exact J202 _ (LB.yes hS.1 hk2 hL2 (by omega) (by unfold adj; omega) (fun b e1 => by rcases e1 with e1 | e1 | e1 | e1 <;> omega) c171 (Int32.not_le.mp c184))
                    have J108 : ∀ (y : Int32), (LB (mu 104) cup (m 106) k 1 y) → WA X g RX9 5 cX9_groups 108 [(0, vC 94), (1, vI cup), (2, vI x), (3, vI (nI k)), (4, vI y)] [] m := by
                      intro y hL1
                      refine o_iload_n dX9_groups_108 rfl rfl (by rfl) ?_
                      refine o_bipush (v := 80) dX9_groups_109 rfl (by decide) ?_
                      refine o_icmp_ge (tgt := 152) dX9_groups_111 (by decide) rfl (fun (c111 : 80 ≤ (nI k)) => ?_) (fun (c111 : ¬ 80 ≤ (nI k)) => ?_)
                      · skip
                        refine o_iload dX9_groups_152 rfl (by rfl) ?_
                        refine o_istore (L' := [(0, vC 94), (1, vI cup), (2, vI x), (3, vI (nI k)), (4, vI y)]) dX9_groups_154 rfl (by decide) (by rfl) (by rfl) ?_
                        exact J156 _ (LB.no hS.1 hL1 (fun b lb hn ha hB eb hlb => absurd (nI_dec2 (b := 80) (a := k) c111 (by omega) (by decide)) (by have := (FB_t hB).1; rcases hn with hn | hn | hn | hn <;> omega)))
                      · skip
                        have hk80 := nI_dec (b := 80) c111 (by omega) (by decide)
                        have hb1 : (nI k + 10).toNatClampNeg = k + 10 := by rw [show nI k + 10 = nI (k + 10) from nI_add k 10]; exact nI_clamp (by omega)
                        refine o_aload_n dX9_groups_114 rfl rfl (by rfl) ?_
                        refine o_getC (q := 106) cl_X9_47 dX9_groups_115 rfl (by decide) (by rfl) (by rfl) ?_
                        refine o_iload_n dX9_groups_118 rfl rfl (by rfl) ?_
                        refine o_bipush (v := 10) dX9_groups_119 rfl (by decide) ?_
                        refine o_iadd dX9_groups_121 rfl ?_
                        refine o_iald dX9_groups_122 rfl (by decide) (by rfl) (by rfl) (by rw [show nI k + 10 = nI (k + 10) from nI_add k 10]; exact vp_in_nI (by omega) (by decide)) ?_
                        refine o_if_lt (tgt := 152) dX9_groups_123 (by decide) rfl (fun (c123 : (m 106 (nI k + 10).toNatClampNeg) < 0) => ?_) (fun (c123 : ¬ (m 106 (nI k + 10).toNatClampNeg) < 0) => ?_)
                        · skip
                          refine o_iload dX9_groups_152 rfl (by rfl) ?_
                          refine o_istore (L' := [(0, vC 94), (1, vI cup), (2, vI x), (3, vI (nI k)), (4, vI y)]) dX9_groups_154 rfl (by decide) (by rfl) (by rfl) ?_
                          exact J156 _ (LB.no hS.1 hL1 (fun b lb hn ha hB eb hlb => absurd (show nI lb < 0 by rw [← eb, (show b = k + 10 by rcases hn with hn | hn | hn | hn <;> omega), ← hb1]; exact c123) (nI_lt0 (by have := (FB_t hB).1; omega))))
                        · skip
                          refine o_aload_n dX9_groups_126 rfl rfl (by rfl) ?_
                          refine o_getC (q := 106) cl_X9_47 dX9_groups_127 rfl (by decide) (by rfl) (by rfl) ?_
                          refine o_iload_n dX9_groups_130 rfl rfl (by rfl) ?_
                          refine o_bipush (v := 10) dX9_groups_131 rfl (by decide) ?_
                          refine o_iadd dX9_groups_133 rfl ?_
                          refine o_iald dX9_groups_134 rfl (by decide) (by rfl) (by rfl) (by rw [show nI k + 10 = nI (k + 10) from nI_add k 10]; exact vp_in_nI (by omega) (by decide)) ?_
                          refine o_iload dX9_groups_135 rfl (by rfl) ?_
                          refine o_icmp_ge (tgt := 152) dX9_groups_137 (by decide) rfl (fun (c137 : y ≤ (m 106 (nI k + 10).toNatClampNeg)) => ?_) (fun (c137 : ¬ y ≤ (m 106 (nI k + 10).toNatClampNeg)) => ?_)
                          · skip
                            refine o_iload dX9_groups_152 rfl (by rfl) ?_
                            refine o_istore (L' := [(0, vC 94), (1, vI cup), (2, vI x), (3, vI (nI k)), (4, vI y)]) dX9_groups_154 rfl (by decide) (by rfl) (by rfl) ?_
                            exact J156 _ (LB.no hS.1 hL1 (fun b lb hn ha hB eb hlb => (show _ ≤ nI lb by rw [← eb, (show b = k + 10 by rcases hn with hn | hn | hn | hn <;> omega), ← hb1]; exact c137)))
                          · skip
                            refine o_aload_n dX9_groups_140 rfl rfl (by rfl) ?_
                            refine o_getC (q := 106) cl_X9_47 dX9_groups_141 rfl (by decide) (by rfl) (by rfl) ?_
                            refine o_iload_n dX9_groups_144 rfl rfl (by rfl) ?_
                            refine o_bipush (v := 10) dX9_groups_145 rfl (by decide) ?_
                            refine o_iadd dX9_groups_147 rfl ?_
                            refine o_iald dX9_groups_148 rfl (by decide) (by rfl) (by rfl) (by rw [show nI k + 10 = nI (k + 10) from nI_add k 10]; exact vp_in_nI (by omega) (by decide)) ?_
                            refine o_goto (tgt := 154) dX9_groups_149 (by decide) ?_
                            refine o_istore (L' := [(0, vC 94), (1, vI cup), (2, vI x), (3, vI (nI k)), (4, vI (m 106 (nI k + 10).toNatClampNeg))]) dX9_groups_154 rfl (by decide) (by rfl) (by rfl) ?_
                            rw [hb1] at c123 c137 ⊢
                            exact J156 _ (LB.yes hS.1 hk2 hL1 (by omega) (by unfold adj; omega) (fun b e1 => by rcases e1 with e1 | e1 | e1 | e1 <;> omega) c123 (Int32.not_le.mp c137))
                    have hL0 : LB (mu 104) cup (m 106) k 0 (m 106 k) := LB.beg hS.1 hk2
                    rw [nI_clamp (show k < 2 ^ 31 by omega)]
                    refine o_iload_n dX9_groups_60 rfl rfl (by rfl) ?_
                    refine o_bipush (v := 9) dX9_groups_61 rfl (by decide) ?_
                    refine o_icmp_le (tgt := 104) dX9_groups_63 (by decide) rfl (fun (c63 : (nI k) ≤ 9) => ?_) (fun (c63 : ¬ (nI k) ≤ 9) => ?_)
                    · skip
                      refine o_iload dX9_groups_104 rfl (by rfl) ?_
                      refine o_istore (L' := [(0, vC 94), (1, vI cup), (2, vI x), (3, vI (nI k)), (4, vI (m 106 k))]) dX9_groups_106 rfl (by decide) (by rfl) (by rfl) ?_
                      exact J108 _ (LB.no hS.1 hL0 (fun b lb hn ha hB eb hlb => absurd (nI_dec2 (b := k) (a := 9) c63 (by decide) (by omega)) (by rcases hn with hn | hn | hn | hn <;> omega)))
                    · skip
                      have hk10 : ¬ k ≤ 9 := fun h9 => c63 ((nI_le9 h9))
                      have hb0 : (nI k - 10).toNatClampNeg = k - 10 := by rw [show nI k - 10 = nI (k - 10) from pk_sub (b := 10) (by omega)]; exact nI_clamp (by omega)
                      refine o_aload_n dX9_groups_66 rfl rfl (by rfl) ?_
                      refine o_getC (q := 106) cl_X9_47 dX9_groups_67 rfl (by decide) (by rfl) (by rfl) ?_
                      refine o_iload_n dX9_groups_70 rfl rfl (by rfl) ?_
                      refine o_bipush (v := 10) dX9_groups_71 rfl (by decide) ?_
                      refine o_isub dX9_groups_73 rfl ?_
                      refine o_iald dX9_groups_74 rfl (by decide) (by rfl) (by rfl) (by rw [show nI k - 10 = nI (k - 10) from pk_sub (b := 10) (by omega)]; exact vp_in_nI (by omega) (by decide)) ?_
                      refine o_if_lt (tgt := 104) dX9_groups_75 (by decide) rfl (fun (c75 : (m 106 (nI k - 10).toNatClampNeg) < 0) => ?_) (fun (c75 : ¬ (m 106 (nI k - 10).toNatClampNeg) < 0) => ?_)
                      · skip
                        refine o_iload dX9_groups_104 rfl (by rfl) ?_
                        refine o_istore (L' := [(0, vC 94), (1, vI cup), (2, vI x), (3, vI (nI k)), (4, vI (m 106 k))]) dX9_groups_106 rfl (by decide) (by rfl) (by rfl) ?_
                        exact J108 _ (LB.no hS.1 hL0 (fun b lb hn ha hB eb hlb => absurd (show nI lb < 0 by rw [← eb, (show b = k - 10 by rcases hn with hn | hn | hn | hn <;> omega), ← hb0]; exact c75) (nI_lt0 (by have := (FB_t hB).1; omega))))
                      · skip
                        refine o_aload_n dX9_groups_78 rfl rfl (by rfl) ?_
                        refine o_getC (q := 106) cl_X9_47 dX9_groups_79 rfl (by decide) (by rfl) (by rfl) ?_
                        refine o_iload_n dX9_groups_82 rfl rfl (by rfl) ?_
                        refine o_bipush (v := 10) dX9_groups_83 rfl (by decide) ?_
                        refine o_isub dX9_groups_85 rfl ?_
                        refine o_iald dX9_groups_86 rfl (by decide) (by rfl) (by rfl) (by rw [show nI k - 10 = nI (k - 10) from pk_sub (b := 10) (by omega)]; exact vp_in_nI (by omega) (by decide)) ?_
                        refine o_iload dX9_groups_87 rfl (by rfl) ?_
                        refine o_icmp_ge (tgt := 104) dX9_groups_89 (by decide) rfl (fun (c89 : (m 106 k) ≤ (m 106 (nI k - 10).toNatClampNeg)) => ?_) (fun (c89 : ¬ (m 106 k) ≤ (m 106 (nI k - 10).toNatClampNeg)) => ?_)
                        · skip
                          refine o_iload dX9_groups_104 rfl (by rfl) ?_
                          refine o_istore (L' := [(0, vC 94), (1, vI cup), (2, vI x), (3, vI (nI k)), (4, vI (m 106 k))]) dX9_groups_106 rfl (by decide) (by rfl) (by rfl) ?_
                          exact J108 _ (LB.no hS.1 hL0 (fun b lb hn ha hB eb hlb => (show _ ≤ nI lb by rw [← eb, (show b = k - 10 by rcases hn with hn | hn | hn | hn <;> omega), ← hb0]; exact c89)))
                        · skip
                          refine o_aload_n dX9_groups_92 rfl rfl (by rfl) ?_
                          refine o_getC (q := 106) cl_X9_47 dX9_groups_93 rfl (by decide) (by rfl) (by rfl) ?_
                          refine o_iload_n dX9_groups_96 rfl rfl (by rfl) ?_
                          refine o_bipush (v := 10) dX9_groups_97 rfl (by decide) ?_
                          refine o_isub dX9_groups_99 rfl ?_
                          refine o_iald dX9_groups_100 rfl (by decide) (by rfl) (by rfl) (by rw [show nI k - 10 = nI (k - 10) from pk_sub (b := 10) (by omega)]; exact vp_in_nI (by omega) (by decide)) ?_
                          refine o_goto (tgt := 106) dX9_groups_101 (by decide) ?_
                          refine o_istore (L' := [(0, vC 94), (1, vI cup), (2, vI x), (3, vI (nI k)), (4, vI (m 106 (nI k - 10).toNatClampNeg))]) dX9_groups_106 rfl (by decide) (by rfl) (by rfl) ?_
                          rw [hb0] at c75 c89 ⊢
                          exact J108 _ (LB.yes hS.1 hk2 hL0 (by omega) (by unfold adj; omega) (fun b e1 => by rcases e1 with e1 | e1 | e1 | e1 <;> omega) c75 (Int32.not_le.mp c89))
              exact LP46 91 0 0 m0 (by omega) hF0 ⟨hG0, Or.inl ⟨rfl, fun _ _ => rfl, fun i hi => by omega⟩⟩ (by omega)
        exact LP38 (90 * 90 + 2) 1 _ hF (by rw [← e2]; exact hG) (fun h9 => absurd h9 (by decide)) (by omega) (fun _ => by have := smN_le (g := m 106) (n := 90) (fun i hi => by rw [e2] at hG; have hi2 := hG i hi; cases hB9 : FB (mu 104) cup i; rw [hi2.2 (by rw [hB9]; decide)]; decide; obtain ⟨l, e9, l9, -⟩ := hi2.1 hB9; rw [e9, nI_clamp (by omega)]; omega); omega)
      · skip
        have hk2 := nI_dec (b := 90) c5 (by omega) (by decide)
        refine o_aload_n dX9_groups_8 rfl rfl (by rfl) ?_
        refine o_getC (q := 106) cl_X9_47 dX9_groups_9 rfl (by decide) (by rfl) (by rfl) ?_
        refine o_iload_n dX9_groups_12 rfl rfl (by rfl) ?_
        refine o_aload_n dX9_groups_13 rfl rfl (by rfl) ?_
        refine o_getC (q := 104) cl_X9_41 dX9_groups_14 rfl (by decide) (by rfl) (by rfl) ?_
        refine o_iload_n dX9_groups_17 rfl rfl (by rfl) ?_
        refine o_iald dX9_groups_18 rfl (by decide) (by rfl) (by rfl) (vp_in_nI hk2 (by decide)) ?_
        refine o_iload_n dX9_groups_19 rfl rfl (by rfl) ?_
        refine o_icmp_ne (tgt := 27) dX9_groups_20 (by decide) rfl (fun (c20 : ¬ (m 104 (nI k).toNatClampNeg) = cup) => ?_) (fun (c20 : (m 104 (nI k).toNatClampNeg) = cup) => ?_)
        · skip
          refine o_bipush (v := (-4)) dX9_groups_27 rfl (by decide) ?_
          refine o_iast dX9_groups_29 rfl (by decide) (by rfl) (by rfl) (vp_in_nI hk2 (by decide)) ?_
          refine o_iinc (v := nI (k + 1)) (L' := [(0, vC 94), (1, vI cup), (2, vI (nI (k + 1)))]) dX9_groups_30 rfl (by rfl) (by exact nI_1 k) (by decide) (by rfl) (by rfl) ?_
          refine o_goto (tgt := 2) dX9_groups_33 (by decide) ?_
          exact ihLP2 (k + 1) _ (by omega) (fun q hq9 => by rw [upF_k hq9]; exact hF q hq9) (GI.in hk2 hG (fun i hi => by rw [nI_clamp (by omega), upF_i (by omega)]) (Or.inr ⟨by rw [nI_clamp (by omega), hF 104 (by decide)] at c20; exact c20, by rw [nI_clamp (by omega), upF_s]⟩)) (by omega)
        · skip
          refine o_iload_n dX9_groups_23 rfl rfl (by rfl) ?_
          refine o_goto (tgt := 29) dX9_groups_24 (by decide) ?_
          refine o_iast dX9_groups_29 rfl (by decide) (by rfl) (by rfl) (vp_in_nI hk2 (by decide)) ?_
          refine o_iinc (v := nI (k + 1)) (L' := [(0, vC 94), (1, vI cup), (2, vI (nI (k + 1)))]) dX9_groups_30 rfl (by rfl) (by exact nI_1 k) (by decide) (by rfl) (by rfl) ?_
          refine o_goto (tgt := 2) dX9_groups_33 (by decide) ?_
          exact ihLP2 (k + 1) _ (by omega) (fun q hq9 => by rw [upF_k hq9]; exact hF q hq9) (GI.in hk2 hG (fun i hi => by rw [nI_clamp (by omega), upF_i (by omega)]) (Or.inl ⟨by rw [nI_clamp (by omega), hF 104 (by decide)] at c20; exact c20, by rw [nI_clamp (by omega), upF_s]⟩)) (by omega)
  exact LP2 91 0 _ (by omega) (fun _ _ => rfl) (fun i h => by omega) (by omega)
