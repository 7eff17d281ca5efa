/-! ===== Plan ===== -/
def dpV (s g k : Nat) (B : Nat → Nat) (i : Nat) : Nat := if i * s ≤ k then i * g + B (k - i * s) else 0
def dpM (s g k : Nat) (B : Nat → Nat) : Nat → Nat
  | 0 => 0
  | n + 1 => if dpM s g k B n < dpV s g k B n then dpV s g k B n else dpM s g k B n
def dpB (S G M : Nat → Nat) (z : Nat) : Nat → Nat → Nat
  | 0, _ => 0
  | d + 1, k => dpM (S (z - 1 - d)) (G (z - 1 - d)) k (dpB S G M z d) (M (z - 1 - d) + 1)
theorem dpM_le {s g k c m : Nat} {B : Nat → Nat} (hg : g ≤ 1584) (hB : ∀ j, B j ≤ c) : ∀ n, n ≤ m → m ≤ 10 → dpM s g k B n ≤ 9 * 1584 + c
  | 0, _, _ => Nat.zero_le _
  | n + 1, h1, h2 => by
    have ih := dpM_le (s := s) (k := k) hg hB n (by omega) h2
    have hv : dpV s g k B n ≤ 9 * 1584 + c := by
      unfold dpV
      split
      · have := hB (k - n * s)
        have := Nat.mul_le_mul (show n ≤ 9 by omega) hg
        omega
      · omega
    unfold dpM
    split <;> assumption
theorem dpB_le {S G M : Nat → Nat} {z : Nat} (hG : ∀ i, i < z → G i ≤ 1584) (hM : ∀ i, i < z → M i ≤ 9) : ∀ d, d ≤ z → ∀ k, dpB S G M z d k ≤ 14256 * d
  | 0, _, _ => Nat.zero_le _
  | d + 1, hd, k => by
    have ih := dpB_le (S := S) hG hM d (by omega)
    have := dpM_le (s := S (z - 1 - d)) (k := k) (c := 14256 * d) (m := M (z - 1 - d) + 1) (hG (z - 1 - d) (by omega)) ih (M (z - 1 - d) + 1) (Nat.le_refl _) (by have := hM (z - 1 - d) (by omega); omega)
    show dpM _ _ _ _ _ ≤ _
    omega
/-- the numbers of the tricks -/
def tS (mu : Mu) (i : Nat) : Nat := (mu (19 + i) 1).toNatClampNeg
def tG (mu : Mu) (i : Nat) : Nat := (mu (19 + i) 2).toNatClampNeg
def tM (mu : Mu) (i : Nat) : Nat := (mu (19 + i) 3).toNatClampNeg
theorem rg_cl {x : Int32} {a b : Nat} (h : rg x a b) : x = nI x.toNatClampNeg ∧ a ≤ x.toNatClampNeg ∧ x.toNatClampNeg ≤ b ∨ ¬ b < 2 ^ 31 := by
  by_cases hb : b < 2 ^ 31
  · obtain ⟨n, e, h1, h2⟩ := rg_nI h
    left
    rw [e, nI_clamp (by omega)]
    exact ⟨rfl, h1, h2⟩
  · exact Or.inr hb
theorem trk {mu : Mu} (h : SOK mu 1) {z : Nat} (ez : mu 17 2 = nI z) (hz : z ≤ 8) {i : Nat} (hi : i < z) : (mu (19 + i) 1 = nI (tS mu i) ∧ 1 ≤ tS mu i ∧ tS mu i ≤ 60) ∧ (mu (19 + i) 2 = nI (tG mu i) ∧ tG mu i ≤ 1584) ∧ (mu (19 + i) 3 = nI (tM mu i) ∧ 1 ≤ tM mu i ∧ tM mu i ≤ 9) := by
  obtain ⟨-, -, -, ⟨y, h1, h2, h3, h4⟩⟩ := h
  have e : y = z := (nI_eq (by omega) (by omega)).mp (h3.symm.trans ez)
  subst e
  obtain ⟨a, b, c, d⟩ := h4 i hi
  have b' := (rg_cl (a := 1) (b := 60) b).resolve_right (by omega)
  have c' := (rg_cl (a := 0) (b := 1584) c).resolve_right (by omega)
  have d' := (rg_cl (a := 1) (b := 9) d).resolve_right (by omega)
  exact ⟨b', ⟨c'.1, c'.2.2⟩, d'⟩
theorem rowP : ∀ t, t < 9 → 61 + t < NC ∧ sh (61 + t) = .inr (.inl 181) ∧ aty (61 + t) = .int := by decide +kernel
theorem tg17 {mu : Mu} (h : SOK mu 1) {z : Nat} (ez : mu 17 2 = nI z) (hz : z ≤ 8) {i : Nat} (hi : i < z) (j : Nat) (hj : j < 4) : tget mu 17 (nI i) (nI j) = mu (19 + i) j := tget_in ez h.t17.1 hi hj (by omega) (by omega)
set_option maxHeartbeats 4000000 in
set_option maxRecDepth 100000 in
theorem c_X2_gainBy (mu : Mu) (hS : SOK mu 1) (z t k n : Nat) (ez : mu 17 2 = nI z) (hz : z ≤ 8) (ht : t < z) (hk : k ≤ 180) (hn : n ≤ 9) (B : Nat → Nat) (hB : ∀ j, j ≤ k → mu (61 + (t + 1)) j = nI (B j)) : Con yX2_gainBy cX2_gainBy 6 (some .int) 1 [vC 59, vC 17, vI (nI t), vI (nI k), vI (nI n)] mu (fun r mu2 => mu2 = mu ∧ r = if n * tS mu t ≤ k then nI (n * tG mu t + B (k - n * tS mu t)) else -1) := by
  refine con_of (own := RX2) (by decide) rfl (Nat.le_of_ble_eq_true rfl) (fun X g hq => ?_)
  show WA X g RX2 6 cX2_gainBy 0 [(0, vC 59), (1, vC 17), (2, vI (nI t)), (3, vI (nI k)), (4, vI (nI n))] [] mu
  refine o_iload_n dX2_gainBy_0 rfl rfl (by rfl) ?_
  refine o_iload dX2_gainBy_1 rfl (by rfl) ?_
  refine o_aload_n dX2_gainBy_3 rfl rfl (by rfl) ?_
  refine o_iload_n dX2_gainBy_4 rfl rfl (by rfl) ?_
  refine o_iconst (v := 1) dX2_gainBy_5 rfl (by decide) ?_
  refine o_callV cs_X6_get cv_X2_29 (c_X6_get 17 8 4 tab17 _ hS.t17 (nI t) 1) hq.2.2.2 (Nat.le_of_ble_eq_true rfl) dX2_gainBy_6 rfl (by decide) (by rfl) (by rfl) (by rfl) rfl rfl (Nat.le_of_ble_eq_true rfl) (fun r1 mu1 h1 => ?_)
  obtain ⟨em, h1⟩ := h1
  rw [em]
  have h1 := (h1.trans (tg17 hS ez hz ht 1 (by decide))).trans (trk hS ez hz ht).1.1
  subst h1
  refine o_imul dX2_gainBy_9 rfl ?_
  refine o_isub dX2_gainBy_10 rfl ?_
  have hs60 := (trk hS ez hz ht).1.2.2
  have hms := Nat.mul_le_mul hn hs60
  rw [pk_mul]
  by_cases hle : n * tS mu t ≤ k
  · skip
    rw [pk_sub hle]
    refine o_istore (L' := [(0, vC 59), (1, vC 17), (2, vI (nI t)), (3, vI (nI k)), (4, vI (nI n)), (5, vI (nI (k - n * tS mu t)))]) dX2_gainBy_11 rfl (by decide) (by rfl) (by rfl) ?_
    refine o_iload dX2_gainBy_13 rfl (by rfl) ?_
    refine o_if_ge (tgt := 22) dX2_gainBy_15 (by decide) rfl (fun (c15 : 0 ≤ (nI (k - n * tS mu t))) => ?_) (fun (c15 : ¬ 0 ≤ (nI (k - n * tS mu t))) => ?_)
    · skip
      refine o_iload dX2_gainBy_22 rfl (by rfl) ?_
      refine o_aload_n dX2_gainBy_24 rfl rfl (by rfl) ?_
      refine o_iload_n dX2_gainBy_25 rfl rfl (by rfl) ?_
      refine o_iconst (v := 2) dX2_gainBy_26 rfl (by decide) ?_
      refine o_callV cs_X6_get cv_X2_29 (c_X6_get 17 8 4 tab17 _ hS.t17 (nI t) 2) hq.2.2.2 (Nat.le_of_ble_eq_true rfl) dX2_gainBy_27 rfl (by decide) (by rfl) (by rfl) (by rfl) rfl rfl (Nat.le_of_ble_eq_true rfl) (fun r2 mu2 h2 => ?_)
      obtain ⟨em, h2⟩ := h2
      rw [em]
      have h2 := (h2.trans (tg17 hS ez hz ht 2 (by decide))).trans (trk hS ez hz ht).2.1.1
      subst h2
      refine o_imul dX2_gainBy_30 rfl ?_
      refine o_aload_n dX2_gainBy_31 rfl rfl (by rfl) ?_
      refine o_getC (q := 60) cl_X2_11 dX2_gainBy_32 rfl (by decide) (by rfl) (by rfl) ?_
      refine o_iload_n dX2_gainBy_35 rfl rfl (by rfl) ?_
      refine o_iconst (v := 1) dX2_gainBy_36 rfl (by decide) ?_
      refine o_iadd dX2_gainBy_37 rfl ?_
      rw [nI_1]
      refine o_aald dX2_gainBy_38 rfl (by decide) (by rfl) (by rfl) (vp_in_nI (by omega) (by decide)) ?_
      refine o_iload dX2_gainBy_39 rfl (by rfl) ?_
      refine o_iald dX2_gainBy_41 rfl (by rw [nI_clamp (by omega)]; exact (rowP (t + 1) (by omega)).1) (by rw [nI_clamp (by omega)]; exact (rowP (t + 1) (by omega)).2.1) (by rw [nI_clamp (by omega)]; exact (rowP (t + 1) (by omega)).2.2) (vp_in_nI (by omega) (by decide)) ?_
      refine o_iadd dX2_gainBy_42 rfl ?_
      exact o_iret hq dX2_gainBy_43 ⟨rfl, by rw [if_pos hle, nI_clamp (by omega), nI_clamp (by omega), hB _ (by omega), pk_mul, nI_add]⟩
    · skip
      exact absurd (nI_pos' (by omega)) c15
  · skip
    refine o_istore (L' := [(0, vC 59), (1, vC 17), (2, vI (nI t)), (3, vI (nI k)), (4, vI (nI n)), (5, vI (nI k - nI (n * tS mu t)))]) dX2_gainBy_11 rfl (by decide) (by rfl) (by rfl) ?_
    refine o_iload dX2_gainBy_13 rfl (by rfl) ?_
    refine o_if_ge (tgt := 22) dX2_gainBy_15 (by decide) rfl (fun (c15 : 0 ≤ (nI k - nI (n * tS mu t))) => ?_) (fun (c15 : ¬ 0 ≤ (nI k - nI (n * tS mu t))) => ?_)
    · skip
      exact absurd c15 (Int32.not_le.mpr (pk_sneg (by omega) (by omega)))
    · skip
      refine o_iconst (v := (-1)) dX2_gainBy_18 rfl (by decide) ?_
      refine o_goto (tgt := 43) dX2_gainBy_19 (by decide) ?_
      exact o_iret hq dX2_gainBy_43 ⟨rfl, by rw [if_neg hle]⟩
theorem max_dp {a v : Nat} {p : Prop} [Decidable p] {r : Int32} (ha : a < 2 ^ 31) (hv : v < 2 ^ 31) (h : r = if p then nI v else -1) : (if nI a < r then r else nI a) = nI (if a < (if p then v else 0) then (if p then v else 0) else a) := by
  by_cases q : p
  · rw [h, if_pos q, if_pos q]
    by_cases e : a < v
    · rw [if_pos e, if_pos (nI_lt e hv)]
    · rw [if_neg e, if_neg (nI_nlt (by omega) ha)]
  · have h1 : ¬ nI a < (-1 : Int32) := fun e => by
      rw [i_lt, nI_toInt ha] at e
      have : (-1 : Int32).toInt = -1 := rfl
      omega
    rw [h, if_neg q, if_neg q, if_neg h1, if_neg (Nat.not_lt_zero a)]
set_option maxHeartbeats 4000000 in
set_option maxRecDepth 100000 in
theorem c_X2_mostFrom (mu : Mu) (hS : SOK mu 1) (z t k c : Nat) (ez : mu 17 2 = nI z) (hz : z ≤ 8) (ht : t < z) (hk : k ≤ 180) (B : Nat → Nat) (hB : ∀ j, j ≤ k → mu (61 + (t + 1)) j = nI (B j)) (hc : ∀ j, B j ≤ c) (hc2 : c ≤ 200000) : Con yX2_mostFrom cX2_mostFrom 6 (some .int) 2 [vC 59, vC 17, vI (nI t), vI (nI k)] mu (fun r mu2 => mu2 = mu ∧ r = nI (dpM (tS mu t) (tG mu t) k B (tM mu t + 1))) := by
  refine con_of (own := RX2) (by decide) rfl (Nat.le_of_ble_eq_true rfl) (fun X g hq => ?_)
  show WA X g RX2 6 cX2_mostFrom 0 [(0, vC 59), (1, vC 17), (2, vI (nI t)), (3, vI (nI k))] [] mu
  have hM9 := (trk hS ez hz ht).2.2.2.2
  have hG9 := (trk hS ez hz ht).2.1.2
  refine o_iconst (v := 0) dX2_mostFrom_0 rfl (by decide) ?_
  refine o_istore (L' := [(0, vC 59), (1, vC 17), (2, vI (nI t)), (3, vI (nI k)), (4, vI 0)]) dX2_mostFrom_1 rfl (by decide) (by rfl) (by rfl) ?_
  refine o_iconst (v := 0) dX2_mostFrom_3 rfl (by decide) ?_
  refine o_istore (L' := [(0, vC 59), (1, vC 17), (2, vI (nI t)), (3, vI (nI k)), (4, vI 0), (5, vI 0)]) dX2_mostFrom_4 rfl (by decide) (by rfl) (by rfl) ?_
  have LP6 : ∀ (nLP6 : Nat) (i : Nat) , (i ≤ tM mu t + 1) → (tM mu t + 1 < i + nLP6) → WA X g RX2 6 cX2_mostFrom 6 [(0, vC 59), (1, vC 17), (2, vI (nI t)), (3, vI (nI k)), (4, vI (nI (dpM (tS mu t) (tG mu t) k B i))), (5, vI (nI i))] [] mu := by
    intro nLP6
    induction nLP6 with
    | zero =>
      intro i hi hm
      exact absurd hm (by omega)
    | succ nLP6 ihLP6 =>
      intro i hi hm
      refine o_iload dX2_mostFrom_6 rfl (by rfl) ?_
      refine o_aload_n dX2_mostFrom_8 rfl rfl (by rfl) ?_
      refine o_iload_n dX2_mostFrom_9 rfl rfl (by rfl) ?_
      refine o_iconst (v := 3) dX2_mostFrom_10 rfl (by decide) ?_
      refine o_callV cs_X6_get cv_X2_29 (c_X6_get 17 8 4 tab17 _ hS.t17 (nI t) 3) hq.2.2.2 (Nat.le_of_ble_eq_true rfl) dX2_mostFrom_11 rfl (by decide) (by rfl) (by rfl) (by rfl) rfl rfl (Nat.le_of_ble_eq_true rfl) (fun r1 mu1 h1 => ?_)
      obtain ⟨em, h1⟩ := h1
      rw [em]
      have h1 := (h1.trans (tg17 hS ez hz ht 3 (by decide))).trans (trk hS ez hz ht).2.2.1
      subst h1
      refine o_icmp_gt (tgt := 39) dX2_mostFrom_14 (by decide) rfl (fun (c14 : (nI (tM mu t)) < (nI i)) => ?_) (fun (c14 : ¬ (nI (tM mu t)) < (nI i)) => ?_)
      · skip
        have hlt := (nI_ltI (by omega) (by omega)).mp c14
        have e2 : i = tM mu t + 1 := by omega
        refine o_iload dX2_mostFrom_39 rfl (by rfl) ?_
        exact o_iret hq dX2_mostFrom_41 ⟨rfl, by rw [e2]⟩
      · skip
        have hle : i ≤ tM mu t := Nat.le_of_not_lt (fun q => c14 (nI_lt q (by omega)))
        refine o_iload dX2_mostFrom_17 rfl (by rfl) ?_
        refine o_aload_n dX2_mostFrom_19 rfl rfl (by rfl) ?_
        refine o_aload_n dX2_mostFrom_20 rfl rfl (by rfl) ?_
        refine o_iload_n dX2_mostFrom_21 rfl rfl (by rfl) ?_
        refine o_iload_n dX2_mostFrom_22 rfl rfl (by rfl) ?_
        refine o_iload dX2_mostFrom_23 rfl (by rfl) ?_
        refine o_callV cs_X2_gainBy cv_X2_33 (c_X2_gainBy _ hS z t k i ez hz ht hk (by omega) B hB) hq.2.2.2 (Nat.le_of_ble_eq_true rfl) dX2_mostFrom_25 rfl (by decide) (by rfl) (by rfl) (by rfl) rfl rfl (Nat.le_of_ble_eq_true rfl) (fun rB mB hGB => ?_)
        obtain ⟨em, hGB⟩ := hGB
        rw [em]
        refine o_mmax (d := 1) mt_X2_37 hq.2.2.2 dX2_mostFrom_28 rfl (Nat.le_of_ble_eq_true rfl) ?_
        refine o_istore (L' := [(0, vC 59), (1, vC 17), (2, vI (nI t)), (3, vI (nI k)), (4, vI (if nI (dpM (tS mu t) (tG mu t) k B i) < rB then rB else nI (dpM (tS mu t) (tG mu t) k B i))), (5, vI (nI i))]) dX2_mostFrom_31 rfl (by decide) (by rfl) (by rfl) ?_
        refine o_iinc (v := nI (i + 1)) (L' := [(0, vC 59), (1, vC 17), (2, vI (nI t)), (3, vI (nI k)), (4, vI (if nI (dpM (tS mu t) (tG mu t) k B i) < rB then rB else nI (dpM (tS mu t) (tG mu t) k B i))), (5, vI (nI (i + 1)))]) dX2_mostFrom_33 rfl (by rfl) (by exact nI_1 i) (by decide) (by rfl) (by rfl) ?_
        refine o_goto (tgt := 6) dX2_mostFrom_36 (by decide) ?_
        rw [show (if nI (dpM (tS mu t) (tG mu t) k B i) < rB then rB else nI (dpM (tS mu t) (tG mu t) k B i)) = nI (dpM (tS mu t) (tG mu t) k B (i + 1)) by exact max_dp (by have := dpM_le (s := tS mu t) (k := k) (m := tM mu t + 1) hG9 hc i (by omega) (by omega); omega) (by have h1 := hc (k - i * tS mu t); have h2 := Nat.mul_le_mul (show i ≤ 9 by omega) hG9; omega) hGB]
        exact ihLP6 (i + 1) (by omega) (by omega)
  exact LP6 (tM mu t + 2) 0 (by omega) (by omega)
/-- how often, from the most down -/
def dwn (P : Nat → Bool) : Nat → Nat
  | 0 => 0
  | n + 1 => if P (n + 1) = true then n + 1 else dwn P n
def dwP (s g k b : Nat) (B : Nat → Nat) (n : Nat) : Bool := decide (n * s ≤ k ∧ n * g + B (k - n * s) = b)
theorem dwn_le (P : Nat → Bool) : ∀ n, dwn P n ≤ n
  | 0 => Nat.le_refl _
  | n + 1 => by
    have := dwn_le P n
    unfold dwn
    split <;> omega
theorem dw_eq {s g k b n : Nat} {B : Nat → Nat} (h1 : n * g + B (k - n * s) < 2 ^ 31) (h2 : b < 2 ^ 31) (h : (if n * s ≤ k then nI (n * g + B (k - n * s)) else -1) = nI b) : dwP s g k b B n = true := by
  apply decide_eq_true
  by_cases q : n * s ≤ k
  · rw [if_pos q] at h
    exact ⟨q, (nI_eq h1 h2).mp h⟩
  · rw [if_neg q] at h
    exact absurd h.symm (nI_nem1 h2)
theorem dw_ne {s g k b n : Nat} {B : Nat → Nat} (h : dwP s g k b B n = true) : (if n * s ≤ k then nI (n * g + B (k - n * s)) else -1) = nI b := by
  obtain ⟨h1, h2⟩ := of_decide_eq_true h
  rw [if_pos h1, h2]
set_option maxHeartbeats 4000000 in
set_option maxRecDepth 100000 in
theorem c_X2_mostTimes (mu : Mu) (hS : SOK mu 1) (z t k c b : Nat) (ez : mu 17 2 = nI z) (hz : z ≤ 8) (ht : t < z) (hk : k ≤ 180) (B : Nat → Nat) (hB : ∀ j, j ≤ k → mu (61 + (t + 1)) j = nI (B j)) (hc : ∀ j, B j ≤ c) (hc2 : c ≤ 200000) (hb : mu (61 + t) k = nI b) (hb2 : b ≤ 300000) : Con yX2_mostTimes cX2_mostTimes 5 (some .int) 2 [vC 59, vC 17, vI (nI t), vI (nI k)] mu (fun r mu2 => mu2 = mu ∧ r = nI (dwn (dwP (tS mu t) (tG mu t) k b B) (tM mu t))) := by
  refine con_of (own := RX2) (by decide) rfl (Nat.le_of_ble_eq_true rfl) (fun X g hq => ?_)
  show WA X g RX2 5 cX2_mostTimes 0 [(0, vC 59), (1, vC 17), (2, vI (nI t)), (3, vI (nI k))] [] mu
  have hM9 := (trk hS ez hz ht).2.2.2.2
  have hG9 := (trk hS ez hz ht).2.1.2
  refine o_aload_n dX2_mostTimes_0 rfl rfl (by rfl) ?_
  refine o_iload_n dX2_mostTimes_1 rfl rfl (by rfl) ?_
  refine o_iconst (v := 3) dX2_mostTimes_2 rfl (by decide) ?_
  refine o_callV cs_X6_get cv_X2_29 (c_X6_get 17 8 4 tab17 _ hS.t17 (nI t) 3) hq.2.2.2 (Nat.le_of_ble_eq_true rfl) dX2_mostTimes_3 rfl (by decide) (by rfl) (by rfl) (by rfl) rfl rfl (Nat.le_of_ble_eq_true rfl) (fun r1 mu1 h1 => ?_)
  obtain ⟨em, h1⟩ := h1
  rw [em]
  have h1 := (h1.trans (tg17 hS ez hz ht 3 (by decide))).trans (trk hS ez hz ht).2.2.1
  subst h1
  refine o_istore (L' := [(0, vC 59), (1, vC 17), (2, vI (nI t)), (3, vI (nI k)), (4, vI (nI (tM mu t)))]) dX2_mostTimes_6 rfl (by decide) (by rfl) (by rfl) ?_
  have LP8 : ∀ (nLP8 : Nat) (i : Nat) , (i ≤ 9) → (dwn (dwP (tS mu t) (tG mu t) k b B) i = dwn (dwP (tS mu t) (tG mu t) k b B) (tM mu t)) → (i < nLP8) → WA X g RX2 5 cX2_mostTimes 8 [(0, vC 59), (1, vC 17), (2, vI (nI t)), (3, vI (nI k)), (4, vI (nI i))] [] mu := by
    intro nLP8
    induction nLP8 with
    | zero =>
      intro i hi hd hm
      exact absurd hm (by omega)
    | succ nLP8 ihLP8 =>
      intro i hi hd hm
      refine o_iload dX2_mostTimes_8 rfl (by rfl) ?_
      refine o_if_le (tgt := 39) dX2_mostTimes_10 (by decide) rfl (fun (c10 : (nI i) ≤ 0) => ?_) (fun (c10 : ¬ (nI i) ≤ 0) => ?_)
      · skip
        have hi0 : i = 0 := by have h := c10; rw [i_le, nI_toInt (by omega)] at h; have e0 : (0 : Int32).toInt = 0 := rfl; omega
        refine o_iload dX2_mostTimes_39 rfl (by rfl) ?_
        exact o_iret hq dX2_mostTimes_41 ⟨rfl, by rw [← hd, hi0]; rfl⟩
      · skip
        obtain ⟨i1, rfl⟩ : ∃ i1, i = i1 + 1 := ⟨i - 1, by have : i ≠ 0 := fun q => c10 (by rw [q]; decide); omega⟩
        refine o_aload_n dX2_mostTimes_13 rfl rfl (by rfl) ?_
        refine o_aload_n dX2_mostTimes_14 rfl rfl (by rfl) ?_
        refine o_iload_n dX2_mostTimes_15 rfl rfl (by rfl) ?_
        refine o_iload_n dX2_mostTimes_16 rfl rfl (by rfl) ?_
        refine o_iload dX2_mostTimes_17 rfl (by rfl) ?_
        refine o_callV cs_X2_gainBy cv_X2_33 (c_X2_gainBy _ hS z t k (i1 + 1) ez hz ht hk (by omega) B hB) hq.2.2.2 (Nat.le_of_ble_eq_true rfl) dX2_mostTimes_19 rfl (by decide) (by rfl) (by rfl) (by rfl) rfl rfl (Nat.le_of_ble_eq_true rfl) (fun rB mB hGB => ?_)
        obtain ⟨em, hGB⟩ := hGB
        rw [em]
        refine o_aload_n dX2_mostTimes_22 rfl rfl (by rfl) ?_
        refine o_getC (q := 60) cl_X2_11 dX2_mostTimes_23 rfl (by decide) (by rfl) (by rfl) ?_
        refine o_iload_n dX2_mostTimes_26 rfl rfl (by rfl) ?_
        refine o_aald dX2_mostTimes_27 rfl (by decide) (by rfl) (by rfl) (vp_in_nI (by omega) (by decide)) ?_
        refine o_iload_n dX2_mostTimes_28 rfl rfl (by rfl) ?_
        refine o_iald dX2_mostTimes_29 rfl (by rw [nI_clamp (by omega)]; exact (rowP t (by omega)).1) (by rw [nI_clamp (by omega)]; exact (rowP t (by omega)).2.1) (by rw [nI_clamp (by omega)]; exact (rowP t (by omega)).2.2) (vp_in_nI (by omega) (by decide)) ?_
        refine o_icmp_eq (tgt := 39) dX2_mostTimes_30 (by decide) rfl (fun (c30 : rB = (mu (61 + (nI t).toNatClampNeg) (nI k).toNatClampNeg)) => ?_) (fun (c30 : ¬ rB = (mu (61 + (nI t).toNatClampNeg) (nI k).toNatClampNeg)) => ?_)
        · skip
          rw [nI_clamp (by omega), nI_clamp (by omega), hb] at c30
          have hyes : dwP (tS mu t) (tG mu t) k b B (i1 + 1) = true := dw_eq (by have h1 := hc (k - (i1 + 1) * tS mu t); have h2 := Nat.mul_le_mul (show i1 + 1 ≤ 9 by omega) hG9; omega) (by omega) (hGB.symm.trans c30)
          refine o_iload dX2_mostTimes_39 rfl (by rfl) ?_
          exact o_iret hq dX2_mostTimes_41 ⟨rfl, by rw [← hd, dwn, if_pos hyes]⟩
        · skip
          rw [nI_clamp (by omega), nI_clamp (by omega), hb] at c30
          have hno : ¬ dwP (tS mu t) (tG mu t) k b B (i1 + 1) = true := fun q => c30 (hGB.trans (dw_ne q))
          refine o_iinc (v := nI i1) (L' := [(0, vC 59), (1, vC 17), (2, vI (nI t)), (3, vI (nI k)), (4, vI (nI i1))]) dX2_mostTimes_33 rfl (by rfl) (by exact (show nI (i1 + 1) + (-1) = nI i1 from pk_m1 i1)) (by decide) (by rfl) (by rfl) ?_
          refine o_goto (tgt := 8) dX2_mostTimes_36 (by decide) ?_
          exact ihLP8 i1 (by omega) (by rw [← hd, dwn, if_neg hno]) (by omega)
  exact LP8 (tM mu t + 1) (tM mu t) (by omega) rfl (by omega)
/-- the rows of the plan from trick t on, for times up to k -/
def PLN (mu m : Mu) (z k t : Nat) : Prop := (∀ q, (q < 61 ∨ 70 ≤ q) → m q = mu q) ∧ ∀ d, t + d ≤ z → ∀ j, j ≤ k → m (61 + (t + d)) j = nI (dpB (tS mu) (tG mu) (tM mu) z (z - (t + d)) j)
theorem tricks_cg {m mu : Mu} (h : ∀ q, q < 61 → m q = mu q) : ∀ i, i < 8 → tS m i = tS mu i ∧ tG m i = tG mu i ∧ tM m i = tM mu i := fun i hi => by
  unfold tS tG tM
  rw [h (19 + i) (by omega)]
  exact ⟨rfl, rfl, rfl⟩
/-- the row of trick t on its way: times below j are done -/
def PLQ (mu m : Mu) (z k t j : Nat) : Prop := (∀ q, (q < 61 ∨ 70 ≤ q) → m q = mu q) ∧ (∀ d, t + 1 + d ≤ z → ∀ i, i ≤ k → m (61 + (t + 1 + d)) i = nI (dpB (tS mu) (tG mu) (tM mu) z (z - (t + 1 + d)) i)) ∧ ∀ i, i < j → m (61 + t) i = nI (dpB (tS mu) (tG mu) (tM mu) z (z - t) i)
theorem t_zero {t : Nat} (h : nI t - 1 < 0) (ht : t ≤ 9) : t = 0 := by
  match t with
  | 0 => rfl
  | t1 + 1 =>
    rw [nI_pred] at h
    exact absurd h (nI_pos (by omega))
theorem t_pos {t : Nat} (h : ¬ nI t - 1 < 0) : ∃ t1, t = t1 + 1 := by
  match t with
  | 0 => exact absurd (by decide) h
  | t1 + 1 => exact ⟨t1, rfl⟩
theorem PLN.init {mu m : Mu} {z k : Nat} (hF : ∀ q, q ≠ 61 + z → m q = mu q) (hA : ∀ j, j ≤ k → m (61 + z) j = 0) (hz : z ≤ 8) : PLN mu m z k z := by
  refine ⟨fun q hq => hF q (by omega), fun d hd j hj => ?_⟩
  have e : d = 0 := by omega
  subst e
  rw [show z - (z + 0) = 0 by omega]
  exact hA j hj
theorem PLN.top {mu m : Mu} {z k t : Nat} (h : PLN mu m z k (t + 1)) : PLQ mu m z k t 0 := ⟨h.1, h.2, fun i hi => by omega⟩
theorem PLQ.down {mu m : Mu} {z k t j : Nat} (h : PLQ mu m z k t j) (hj : k < j) (ht : t < z) : PLN mu m z k t := by
  refine ⟨h.1, fun d hd i hi => ?_⟩
  match d with
  | 0 => exact h.2.2 i (by omega)
  | d + 1 =>
    rw [show t + (d + 1) = t + 1 + d by omega]
    exact h.2.1 d (by omega) i hi
theorem PLQ.step {mu m : Mu} {z k t j : Nat} {r : Int32} (h : PLQ mu m z k t j) (ht : t < z) (hz : z ≤ 8) (hj : j ≤ k) (hr : r = nI (dpM (tS mu t) (tG mu t) j (dpB (tS mu) (tG mu) (tM mu) z (z - (t + 1))) (tM mu t + 1))) : PLQ mu (upF m (61 + t) j r) z k t (j + 1) := by
  refine ⟨fun q hq => by rw [upF_k (by omega)]; exact h.1 q hq, fun d hd i hi => by rw [upF_k (by omega)]; exact h.2.1 d hd i hi, fun i hi => ?_⟩
  by_cases e : i = j
  · subst e
    rw [upF_s, hr]
    congr 1
    rw [show z - t = (z - (t + 1)) + 1 by omega]
    show _ = dpM (tS mu (z - 1 - (z - (t + 1)))) (tG mu (z - 1 - (z - (t + 1)))) i (dpB (tS mu) (tG mu) (tM mu) z (z - (t + 1))) (tM mu (z - 1 - (z - (t + 1))) + 1)
    rw [show z - 1 - (z - (t + 1)) = t by omega]
  · rw [upF_i e]
    exact h.2.2 i (by omega)
set_option maxHeartbeats 4000000 in
set_option maxRecDepth 100000 in
theorem c_X2_weigh (mu : Mu) (hS : SOK mu 1) (z k : Nat) (ez : mu 17 2 = nI z) (hz : z ≤ 8) (hk : k ≤ 180) : ConV yX2_weigh cX2_weigh 5 3 [vC 59, vC 17, vI (nI k)] mu (fun mu2 => PLN mu mu2 z k 0) := by
  refine conV_of (own := RX2) (by decide) rfl (Nat.le_of_ble_eq_true rfl) (fun X g hq => ?_)
  show WA X g RX2 5 cX2_weigh 0 [(0, vC 59), (1, vC 17), (2, vI (nI k))] [] mu
  refine o_iconst (v := 0) dX2_weigh_0 rfl (by decide) ?_
  refine o_istore_n (L' := [(0, vC 59), (1, vC 17), (2, vI (nI k)), (3, vI 0)]) dX2_weigh_1 rfl rfl (by decide) (by rfl) (by rfl) ?_
  have LP2 : ∀ (nLP2 : Nat) (i : Nat) (m : Mu) , (i ≤ k + 1) → (∀ q, q ≠ 61 + z → m q = mu q) → (∀ j, j < i → m (61 + z) j = 0) → (k + 1 < i + nLP2) → WA X g RX2 5 cX2_weigh 2 [(0, vC 59), (1, vC 17), (2, vI (nI k)), (3, vI (nI i))] [] m := by
    intro nLP2
    induction nLP2 with
    | zero =>
      intro i m hi hF hA hm
      exact absurd hm (by omega)
    | succ nLP2 ihLP2 =>
      intro i m hi hF hA hm
      refine o_iload_n dX2_weigh_2 rfl rfl (by rfl) ?_
      refine o_iload_n dX2_weigh_3 rfl rfl (by rfl) ?_
      refine o_icmp_gt (tgt := 25) dX2_weigh_4 (by decide) rfl (fun (c4 : (nI k) < (nI i)) => ?_) (fun (c4 : ¬ (nI k) < (nI i)) => ?_)
      · skip
        have hki := (nI_ltI (by omega) (by omega)).mp c4
        have ei : i = k + 1 := by omega
        refine o_aload_n dX2_weigh_25 rfl rfl (by rfl) ?_
        refine o_getI cl_X2_16 dX2_weigh_26 rfl (by decide) (by rfl) (by rfl) ?_
        rw [show m 17 2 = nI z by rw [hF 17 (by omega)]; exact ez]
        refine o_iconst (v := 1) dX2_weigh_29 rfl (by decide) ?_
        refine o_isub dX2_weigh_30 rfl ?_
        refine o_istore_n (L' := [(0, vC 59), (1, vC 17), (2, vI (nI k)), (3, vI ((nI z) - 1))]) dX2_weigh_31 rfl rfl (by decide) (by rfl) (by rfl) ?_
        have LP32 : ∀ (nLP32 : Nat) (t : Nat) (m : Mu) , (t ≤ z) → (PLN mu m z k t) → (t < nLP32) → WA X g RX2 5 cX2_weigh 32 [(0, vC 59), (1, vC 17), (2, vI (nI k)), (3, vI (nI t - 1))] [] m := by
          intro nLP32
          induction nLP32 with
          | zero =>
            intro t m ht0 hP hm
            exact absurd hm (by omega)
          | succ nLP32 ihLP32 =>
            intro t m ht0 hP hm
            refine o_iload_n dX2_weigh_32 rfl rfl (by rfl) ?_
            refine o_if_lt (tgt := 74) dX2_weigh_33 (by decide) rfl (fun (c33 : (nI t - 1) < 0) => ?_) (fun (c33 : ¬ (nI t - 1) < 0) => ?_)
            · skip
              have et : t = 0 := t_zero c33 (by omega)
              exact o_vret hq dX2_weigh_74 (by rw [et] at hP; exact hP)
            · skip
              obtain ⟨t1, rfl⟩ := t_pos c33
              rw [nI_pred]
              refine o_iconst (v := 0) dX2_weigh_36 rfl (by decide) ?_
              refine o_istore (L' := [(0, vC 59), (1, vC 17), (2, vI (nI k)), (3, vI (nI t1)), (4, vI 0)]) dX2_weigh_37 rfl (by decide) (by rfl) (by rfl) ?_
              have LP39 : ∀ (nLP39 : Nat) (j : Nat) (m2 : Mu) , (j ≤ k + 1) → (PLQ mu m2 z k t1 j) → (k + 1 < j + nLP39) → WA X g RX2 5 cX2_weigh 39 [(0, vC 59), (1, vC 17), (2, vI (nI k)), (3, vI (nI t1)), (4, vI (nI j))] [] m2 := by
                intro nLP39
                induction nLP39 with
                | zero =>
                  intro j m2 hj hQ hm2
                  exact absurd hm2 (by omega)
                | succ nLP39 ihLP39 =>
                  intro j m2 hj hQ hm2
                  refine o_iload dX2_weigh_39 rfl (by rfl) ?_
                  refine o_iload_n dX2_weigh_41 rfl rfl (by rfl) ?_
                  refine o_icmp_gt (tgt := 68) dX2_weigh_42 (by decide) rfl (fun (c42 : (nI k) < (nI j)) => ?_) (fun (c42 : ¬ (nI k) < (nI j)) => ?_)
                  · skip
                    have hki := (nI_ltI (by omega) (by omega)).mp c42
                    refine o_iinc (v := nI t1 - 1) (L' := [(0, vC 59), (1, vC 17), (2, vI (nI k)), (3, vI (nI t1 - 1)), (4, vI (nI j))]) dX2_weigh_68 rfl (by rfl) (by exact (show nI t1 + (-1) = nI t1 - 1 by grind)) (by decide) (by rfl) (by rfl) ?_
                    refine o_goto (tgt := 32) dX2_weigh_71 (by decide) ?_
                    refine o_pick (L' := [(0, vC 59), (1, vC 17), (2, vI (nI k)), (3, vI (nI t1 - 1))]) [0, 1, 2, 3] (by rfl) ?_
                    exact ihLP32 t1 _ (by omega) (hQ.down (by omega) (by omega)) (by omega)
                  · skip
                    have hjk : j ≤ k := Nat.le_of_not_lt (fun q => c42 (nI_lt q (by omega)))
                    refine o_aload_n dX2_weigh_45 rfl rfl (by rfl) ?_
                    refine o_getC (q := 60) cl_X2_11 dX2_weigh_46 rfl (by decide) (by rfl) (by rfl) ?_
                    refine o_iload_n dX2_weigh_49 rfl rfl (by rfl) ?_
                    refine o_aald dX2_weigh_50 rfl (by decide) (by rfl) (by rfl) (vp_in_nI (by omega) (by decide)) ?_
                    refine o_iload dX2_weigh_51 rfl (by rfl) ?_
                    refine o_aload_n dX2_weigh_53 rfl rfl (by rfl) ?_
                    refine o_aload_n dX2_weigh_54 rfl rfl (by rfl) ?_
                    refine o_iload_n dX2_weigh_55 rfl rfl (by rfl) ?_
                    refine o_iload dX2_weigh_56 rfl (by rfl) ?_
                    refine o_callV cs_X2_mostFrom cv_X2_22 (c_X2_mostFrom m2 (hS.cg (fun q a b => hQ.1 q (by omega))) z t1 j 114048 (by rw [hQ.1 17 (by omega)]; exact ez) hz (by omega) (by omega) (dpB (tS mu) (tG mu) (tM mu) z (z - (t1 + 1))) (fun i hi => hQ.2.1 0 (by omega) i (by omega)) (fun i => Nat.le_trans (dpB_le (fun q hq => (trk hS ez hz hq).2.1.2) (fun q hq => (trk hS ez hz hq).2.2.2.2) (z - (t1 + 1)) (by omega) i) (by omega)) (by decide)) hq.2.2.2 (Nat.le_of_ble_eq_true rfl) dX2_weigh_58 rfl (by decide) (by rfl) (by rfl) (by rfl) rfl rfl (Nat.le_of_ble_eq_true rfl) (fun rM mM hr => ?_)
                    have em := hr.1
                    rw [em]
                    refine o_iast dX2_weigh_61 rfl (by rw [nI_clamp (by omega)]; exact (rowP t1 (by omega)).1) (by rw [nI_clamp (by omega)]; exact (rowP t1 (by omega)).2.1) (by rw [nI_clamp (by omega)]; exact (rowP t1 (by omega)).2.2) (vp_in_nI (by omega) (by decide)) ?_
                    refine o_iinc (v := nI (j + 1)) (L' := [(0, vC 59), (1, vC 17), (2, vI (nI k)), (3, vI (nI t1)), (4, vI (nI (j + 1)))]) dX2_weigh_62 rfl (by rfl) (by exact nI_1 j) (by decide) (by rfl) (by rfl) ?_
                    refine o_goto (tgt := 39) dX2_weigh_65 (by decide) ?_
                    exact ihLP39 (j + 1) _ (by omega) (by rw [nI_clamp (show t1 < 2 ^ 31 by omega), nI_clamp (by omega)]; exact hQ.step (by omega) (by omega) (by omega) (by rw [hr.2]; exact congrArg nI (by rw [(tricks_cg (fun q hq => hQ.1 q (by omega)) t1 (by omega)).1, (tricks_cg (fun q hq => hQ.1 q (by omega)) t1 (by omega)).2.1, (tricks_cg (fun q hq => hQ.1 q (by omega)) t1 (by omega)).2.2]))) (by omega)
              exact LP39 (k + 2) 0 _ (by omega) hP.top (by omega)
        exact LP32 (z + 1) z _ (Nat.le_refl _) (PLN.init hF (fun j hj => hA j (by omega)) hz) (by omega)
      · skip
        have hik : i ≤ k := Nat.le_of_not_lt (fun q => c4 (nI_lt q (by omega)))
        refine o_aload_n dX2_weigh_7 rfl rfl (by rfl) ?_
        refine o_getC (q := 60) cl_X2_11 dX2_weigh_8 rfl (by decide) (by rfl) (by rfl) ?_
        refine o_aload_n dX2_weigh_11 rfl rfl (by rfl) ?_
        refine o_getI cl_X2_16 dX2_weigh_12 rfl (by decide) (by rfl) (by rfl) ?_
        rw [show m 17 2 = nI z by rw [hF 17 (by omega)]; exact ez]
        refine o_aald dX2_weigh_15 rfl (by decide) (by rfl) (by rfl) (vp_in_nI (by omega) (by decide)) ?_
        refine o_iload_n dX2_weigh_16 rfl rfl (by rfl) ?_
        refine o_iconst (v := 0) dX2_weigh_17 rfl (by decide) ?_
        refine o_iast dX2_weigh_18 rfl (by rw [nI_clamp (by omega)]; exact (rowP z (by omega)).1) (by rw [nI_clamp (by omega)]; exact (rowP z (by omega)).2.1) (by rw [nI_clamp (by omega)]; exact (rowP z (by omega)).2.2) (vp_in_nI (by omega) (by decide)) ?_
        refine o_iinc (v := nI (i + 1)) (L' := [(0, vC 59), (1, vC 17), (2, vI (nI k)), (3, vI (nI (i + 1)))]) dX2_weigh_19 rfl (by rfl) (by exact nI_1 i) (by decide) (by rfl) (by rfl) ?_
        refine o_goto (tgt := 2) dX2_weigh_22 (by decide) ?_
        exact ihLP2 (i + 1) _ (by omega) (fun q hq => by rw [nI_clamp (show z < 2 ^ 31 by omega), upF_k hq]; exact hF q hq) (lt_s (fun j hj => by rw [nI_clamp (show z < 2 ^ 31 by omega), nI_clamp (by omega), upF_i (by omega)]; exact hA j hj) (by rw [nI_clamp (show z < 2 ^ 31 by omega), nI_clamp (by omega), upF_s])) (by omega)
  exact LP2 (k + 2) 0 _ (by omega) (fun _ _ => rfl) (fun j h => by omega) (by omega)
